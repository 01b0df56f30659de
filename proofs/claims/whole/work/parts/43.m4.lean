theorem px_upl_at (σ : px_St) (k j : Nat) (x : Int64) (k' j' : Nat) : (px_upl σ k j x).2 k' j' = if k' = k ∧ j' = j then x else σ.2 k' j' := by
  unfold px_upl vp_updL
  by_cases h : k' = k
  · subst h
    simp
  · simp [h]
theorem px_upl_1 (σ : px_St) (k j : Nat) (x : Int64) : (px_upl σ k j x).1 = σ.1 := rfl
theorem pcb : ∀ p, p < 5 → ∀ a, a < 32 → pv_pc (a &&& 2 ^ p) 10 = a / 2 ^ p % 2 := by decide +kernel
theorem bit_lo : ∀ k, k < 5 → ∀ a, a < 32 → a < 2 ^ k → ∀ p, p < k → (a + 2 ^ k) / 2 ^ p % 2 = a / 2 ^ p % 2 := by decide +kernel
theorem bit_hi : ∀ k, k < 5 → ∀ a, a < 32 → a < 2 ^ k → (a + 2 ^ k) / 2 ^ k % 2 = 1 ∧ a / 2 ^ k % 2 = 0 := by decide +kernel
theorem and31 : ∀ a, a < 32 → a &&& 31 = a := by decide
theorem kn_bit (W : pv_V) (s p : Nat) : ∀ N, N ≤ 5 → p < N → pv_kn W s N / 2 ^ p % 2 = if s ∈ (W.2.2.2 p).2.2 then 1 else 0
  | 0, _, h => absurd h (Nat.not_lt_zero p)
  | N + 1, hN, hp => by
    have h1 := pv_kn_lt W s N
    have h2 : 2 ^ N ≤ 2 ^ 4 := Nat.pow_le_pow_right (by omega) (by omega)
    rw [pv_kn]
    by_cases hpN : p = N
    · subst hpN
      obtain ⟨a1, a2⟩ := bit_hi p (by omega) (pv_kn W s p) (by omega) h1
      by_cases hm : s ∈ (W.2.2.2 p).2.2
      · rw [if_pos hm, if_pos hm]; exact a1
      · rw [if_neg hm, if_neg hm]; exact a2
    · have ih := kn_bit W s p N (by omega) (by omega)
      split
      · rw [bit_lo N (by omega) _ (by omega) h1 p (by omega)]; exact ih
      · exact ih
theorem kn_pc (W : pv_V) (s p N : Nat) (hN : N ≤ 5) (hp : p < N) : pv_pc (pv_kn W s N &&& 2 ^ p) 10 = if s ∈ (W.2.2.2 p).2.2 then 1 else 0 := by
  have h1 := pv_kn_lt W s N
  have h2 : 2 ^ N ≤ 2 ^ 5 := Nat.pow_le_pow_right (by omega) hN
  rw [pcb p (by omega) _ (by omega), kn_bit W s p N hN hp]
theorem kn_31 (W : pv_V) (s N : Nat) (hN : N ≤ 5) : pv_pc (pv_kn W s N &&& 31) 10 = pv_many W s N := by
  have h1 := pv_kn_lt W s N
  have h2 : 2 ^ N ≤ 2 ^ 5 := Nat.pow_le_pow_right (by omega) hN
  rw [and31 _ (by omega), pv_many_pc W s N hN]
abbrev gtX6_findOdds : Type := pv_V × Nat × Nat × Nat × Option Nat
def qrX6_findOdds : gtX6_findOdds → Int32 → Int32 → Int32 → Int32 → px_St → Prop
  | (V, v, s, n, q), v1, v2, v3, v4, σ => mv_is (σ.1 1) V ∧ pv_ok V ∧ V.2.2.1 < 1900 ∧ v ≤ 10 ∧ s ≤ 9 ∧ n ≤ 8 ∧ v1 = nI v ∧ v3 = nI s ∧ v4 = nI n ∧ (q = none → v2 = -4) ∧ ∀ p, q = some p → p < V.1 ∧ v2 = nI p
def qoX6_findOdds : gtX6_findOdds → Int32 → Int32 → Int32 → Int32 → px_St → Unit → px_St → Prop
  | (V, v, s, n, q), _, _, _, _, σ, _, σ' => (∀ k, k ≠ 2 → σ'.1 k = σ.1 k) ∧ (∀ p, q = some p → σ'.2 0 15 = lN (pv_ws V v s n (2 ^ p) (2 ^ n))) ∧ σ'.2 0 16 = lN (pv_ws V v s n 31 (2 ^ n)) ∧ σ'.2 0 17 = lN (10 ^ n)
def prX6_findOdds (g : gtX6_findOdds) : List Value → px_St → Prop := fun As σ => ∃ v1 : Int32, ∃ v2 : Int32, ∃ v3 : Int32, ∃ v4 : Int32, As = [.ref 0, .int v1, .int v2, .int v3, .int v4] ∧ qrX6_findOdds g v1 v2 v3 v4 σ
def poX6_findOdds (g : gtX6_findOdds) : List Value → px_St → Unit → px_St → Prop
  | [.ref _, .int v1, .int v2, .int v3, .int v4], σ, r, σ' => qoX6_findOdds g v1 v2 v3 v4 σ r σ'
  | _, _, _, _ => False
theorem dX6_findOdds_0 : decode cX6_findOdds 0 = .ok (.aload_n 0, 1) := by decide +kernel
theorem dX6_findOdds_1 : decode cX6_findOdds 1 = .ok (.lconst 0, 1) := by decide +kernel
theorem dX6_findOdds_2 : decode cX6_findOdds 2 = .ok (.putfield 242, 3) := by decide +kernel
theorem dX6_findOdds_5 : decode cX6_findOdds 5 = .ok (.aload_n 0, 1) := by decide +kernel
theorem dX6_findOdds_6 : decode cX6_findOdds 6 = .ok (.lconst 0, 1) := by decide +kernel
theorem dX6_findOdds_7 : decode cX6_findOdds 7 = .ok (.putfield 246, 3) := by decide +kernel
theorem dX6_findOdds_10 : decode cX6_findOdds 10 = .ok (.aload_n 0, 1) := by decide +kernel
theorem dX6_findOdds_11 : decode cX6_findOdds 11 = .ok (.lconst 1, 1) := by decide +kernel
theorem dX6_findOdds_12 : decode cX6_findOdds 12 = .ok (.putfield 249, 3) := by decide +kernel
theorem dX6_findOdds_15 : decode cX6_findOdds 15 = .ok (.iconst 0, 1) := by decide +kernel
theorem dX6_findOdds_16 : decode cX6_findOdds 16 = .ok (.istore 5, 2) := by decide +kernel
theorem dX6_findOdds_18 : decode cX6_findOdds 18 = .ok (.iload 5, 2) := by decide +kernel
theorem dX6_findOdds_20 : decode cX6_findOdds 20 = .ok (.iload 4, 2) := by decide +kernel
theorem dX6_findOdds_22 : decode cX6_findOdds 22 = .ok (.if_icmp .ge 21, 3) := by decide +kernel
theorem dX6_findOdds_25 : decode cX6_findOdds 25 = .ok (.aload_n 0, 1) := by decide +kernel
theorem dX6_findOdds_26 : decode cX6_findOdds 26 = .ok (.dup, 1) := by decide +kernel
theorem dX6_findOdds_27 : decode cX6_findOdds 27 = .ok (.getfield 249, 3) := by decide +kernel
theorem dX6_findOdds_30 : decode cX6_findOdds 30 = .ok (.ldc2_w 168, 3) := by decide +kernel
theorem dX6_findOdds_33 : decode cX6_findOdds 33 = .ok (.lmul, 1) := by decide +kernel
theorem dX6_findOdds_34 : decode cX6_findOdds 34 = .ok (.putfield 249, 3) := by decide +kernel
theorem dX6_findOdds_37 : decode cX6_findOdds 37 = .ok (.iinc 5 1, 3) := by decide +kernel
theorem dX6_findOdds_40 : decode cX6_findOdds 40 = .ok (.goto (-22), 3) := by decide +kernel
theorem dX6_findOdds_43 : decode cX6_findOdds 43 = .ok (.iconst 0, 1) := by decide +kernel
theorem dX6_findOdds_44 : decode cX6_findOdds 44 = .ok (.istore 5, 2) := by decide +kernel
theorem dX6_findOdds_46 : decode cX6_findOdds 46 = .ok (.iload 5, 2) := by decide +kernel
theorem dX6_findOdds_48 : decode cX6_findOdds 48 = .ok (.iconst 1, 1) := by decide +kernel
theorem dX6_findOdds_49 : decode cX6_findOdds 49 = .ok (.iload 4, 2) := by decide +kernel
theorem dX6_findOdds_51 : decode cX6_findOdds 51 = .ok (.ishl, 1) := by decide +kernel
theorem dX6_findOdds_52 : decode cX6_findOdds 52 = .ok (.if_icmp .ge 141, 3) := by decide +kernel
theorem dX6_findOdds_55 : decode cX6_findOdds 55 = .ok (.lconst 1, 1) := by decide +kernel
theorem dX6_findOdds_56 : decode cX6_findOdds 56 = .ok (.lstore 6, 2) := by decide +kernel
theorem dX6_findOdds_58 : decode cX6_findOdds 58 = .ok (.aload_n 0, 1) := by decide +kernel
theorem dX6_findOdds_59 : decode cX6_findOdds 59 = .ok (.invokevirtual 163, 3) := by decide +kernel
theorem dX6_findOdds_62 : decode cX6_findOdds 62 = .ok (.iconst 0, 1) := by decide +kernel
theorem dX6_findOdds_63 : decode cX6_findOdds 63 = .ok (.istore 8, 2) := by decide +kernel
theorem dX6_findOdds_65 : decode cX6_findOdds 65 = .ok (.iload 8, 2) := by decide +kernel
theorem dX6_findOdds_67 : decode cX6_findOdds 67 = .ok (.iload 4, 2) := by decide +kernel
theorem dX6_findOdds_69 : decode cX6_findOdds 69 = .ok (.if_icmp .ge 70, 3) := by decide +kernel
theorem dX6_findOdds_72 : decode cX6_findOdds 72 = .ok (.iload 5, 2) := by decide +kernel
theorem dX6_findOdds_74 : decode cX6_findOdds 74 = .ok (.iload 8, 2) := by decide +kernel
theorem dX6_findOdds_76 : decode cX6_findOdds 76 = .ok (.ishr, 1) := by decide +kernel
theorem dX6_findOdds_77 : decode cX6_findOdds 77 = .ok (.iconst 1, 1) := by decide +kernel
theorem dX6_findOdds_78 : decode cX6_findOdds 78 = .ok (.iand, 1) := by decide +kernel
theorem dX6_findOdds_79 : decode cX6_findOdds 79 = .ok (.iconst 1, 1) := by decide +kernel
theorem dX6_findOdds_80 : decode cX6_findOdds 80 = .ok (.if_icmp .ne 7, 3) := by decide +kernel
theorem dX6_findOdds_83 : decode cX6_findOdds 83 = .ok (.iconst 1, 1) := by decide +kernel
theorem dX6_findOdds_84 : decode cX6_findOdds 84 = .ok (.goto 4, 3) := by decide +kernel
theorem dX6_findOdds_87 : decode cX6_findOdds 87 = .ok (.iconst 0, 1) := by decide +kernel
theorem dX6_findOdds_88 : decode cX6_findOdds 88 = .ok (.istore 9, 2) := by decide +kernel
theorem dX6_findOdds_90 : decode cX6_findOdds 90 = .ok (.lload 6, 2) := by decide +kernel
theorem dX6_findOdds_92 : decode cX6_findOdds 92 = .ok (.iload 9, 2) := by decide +kernel
theorem dX6_findOdds_94 : decode cX6_findOdds 94 = .ok (.ifCond .eq 8, 3) := by decide +kernel
theorem dX6_findOdds_97 : decode cX6_findOdds 97 = .ok (.iload_n 1, 1) := by decide +kernel
theorem dX6_findOdds_98 : decode cX6_findOdds 98 = .ok (.i2l, 1) := by decide +kernel
theorem dX6_findOdds_99 : decode cX6_findOdds 99 = .ok (.goto 8, 3) := by decide +kernel
theorem dX6_findOdds_102 : decode cX6_findOdds 102 = .ok (.bipush 10, 2) := by decide +kernel
theorem dX6_findOdds_104 : decode cX6_findOdds 104 = .ok (.iload_n 1, 1) := by decide +kernel
theorem dX6_findOdds_105 : decode cX6_findOdds 105 = .ok (.isub, 1) := by decide +kernel
theorem dX6_findOdds_106 : decode cX6_findOdds 106 = .ok (.i2l, 1) := by decide +kernel
theorem dX6_findOdds_107 : decode cX6_findOdds 107 = .ok (.lmul, 1) := by decide +kernel
theorem dX6_findOdds_108 : decode cX6_findOdds 108 = .ok (.lstore 6, 2) := by decide +kernel
theorem dX6_findOdds_110 : decode cX6_findOdds 110 = .ok (.iload 9, 2) := by decide +kernel
theorem dX6_findOdds_112 : decode cX6_findOdds 112 = .ok (.ifCond .eq 17, 3) := by decide +kernel
theorem dX6_findOdds_115 : decode cX6_findOdds 115 = .ok (.aload_n 0, 1) := by decide +kernel
theorem dX6_findOdds_116 : decode cX6_findOdds 116 = .ok (.getfield 13, 3) := by decide +kernel
theorem dX6_findOdds_119 : decode cX6_findOdds 119 = .ok (.bipush 47, 2) := by decide +kernel
theorem dX6_findOdds_121 : decode cX6_findOdds 121 = .ok (.dup2, 1) := by decide +kernel
theorem dX6_findOdds_122 : decode cX6_findOdds 122 = .ok (.iaload, 1) := by decide +kernel
theorem dX6_findOdds_123 : decode cX6_findOdds 123 = .ok (.iconst 1, 1) := by decide +kernel
theorem dX6_findOdds_124 : decode cX6_findOdds 124 = .ok (.iadd, 1) := by decide +kernel
theorem dX6_findOdds_125 : decode cX6_findOdds 125 = .ok (.iastore, 1) := by decide +kernel
theorem dX6_findOdds_126 : decode cX6_findOdds 126 = .ok (.goto 7, 3) := by decide +kernel
theorem dX6_findOdds_129 : decode cX6_findOdds 129 = .ok (.aload_n 0, 1) := by decide +kernel
theorem dX6_findOdds_130 : decode cX6_findOdds 130 = .ok (.invokevirtual 156, 3) := by decide +kernel
theorem dX6_findOdds_133 : decode cX6_findOdds 133 = .ok (.iinc 8 1, 3) := by decide +kernel
theorem dX6_findOdds_136 : decode cX6_findOdds 136 = .ok (.goto (-71), 3) := by decide +kernel
theorem dX6_findOdds_139 : decode cX6_findOdds 139 = .ok (.aload_n 0, 1) := by decide +kernel
theorem dX6_findOdds_140 : decode cX6_findOdds 140 = .ok (.dup, 1) := by decide +kernel
theorem dX6_findOdds_141 : decode cX6_findOdds 141 = .ok (.getfield 242, 3) := by decide +kernel
theorem dX6_findOdds_144 : decode cX6_findOdds 144 = .ok (.iload_n 2, 1) := by decide +kernel
theorem dX6_findOdds_145 : decode cX6_findOdds 145 = .ok (.bipush (-4), 2) := by decide +kernel
theorem dX6_findOdds_147 : decode cX6_findOdds 147 = .ok (.if_icmp .eq 17, 3) := by decide +kernel
theorem dX6_findOdds_150 : decode cX6_findOdds 150 = .ok (.aload_n 0, 1) := by decide +kernel
theorem dX6_findOdds_151 : decode cX6_findOdds 151 = .ok (.iload_n 2, 1) := by decide +kernel
theorem dX6_findOdds_152 : decode cX6_findOdds 152 = .ok (.iload_n 3, 1) := by decide +kernel
theorem dX6_findOdds_153 : decode cX6_findOdds 153 = .ok (.invokevirtual 137, 3) := by decide +kernel
theorem dX6_findOdds_156 : decode cX6_findOdds 156 = .ok (.ifCond .eq 8, 3) := by decide +kernel
theorem dX6_findOdds_159 : decode cX6_findOdds 159 = .ok (.lload 6, 2) := by decide +kernel
theorem dX6_findOdds_161 : decode cX6_findOdds 161 = .ok (.goto 4, 3) := by decide +kernel
theorem dX6_findOdds_164 : decode cX6_findOdds 164 = .ok (.lconst 0, 1) := by decide +kernel
theorem dX6_findOdds_165 : decode cX6_findOdds 165 = .ok (.ladd, 1) := by decide +kernel
theorem dX6_findOdds_166 : decode cX6_findOdds 166 = .ok (.putfield 242, 3) := by decide +kernel
theorem dX6_findOdds_169 : decode cX6_findOdds 169 = .ok (.aload_n 0, 1) := by decide +kernel
theorem dX6_findOdds_170 : decode cX6_findOdds 170 = .ok (.dup, 1) := by decide +kernel
theorem dX6_findOdds_171 : decode cX6_findOdds 171 = .ok (.getfield 246, 3) := by decide +kernel
theorem dX6_findOdds_174 : decode cX6_findOdds 174 = .ok (.lload 6, 2) := by decide +kernel
theorem dX6_findOdds_176 : decode cX6_findOdds 176 = .ok (.aload_n 0, 1) := by decide +kernel
theorem dX6_findOdds_177 : decode cX6_findOdds 177 = .ok (.iload_n 3, 1) := by decide +kernel
theorem dX6_findOdds_178 : decode cX6_findOdds 178 = .ok (.invokevirtual 235, 3) := by decide +kernel
theorem dX6_findOdds_181 : decode cX6_findOdds 181 = .ok (.i2l, 1) := by decide +kernel
theorem dX6_findOdds_182 : decode cX6_findOdds 182 = .ok (.lmul, 1) := by decide +kernel
theorem dX6_findOdds_183 : decode cX6_findOdds 183 = .ok (.ladd, 1) := by decide +kernel
theorem dX6_findOdds_184 : decode cX6_findOdds 184 = .ok (.putfield 246, 3) := by decide +kernel
theorem dX6_findOdds_187 : decode cX6_findOdds 187 = .ok (.iinc 5 1, 3) := by decide +kernel
theorem dX6_findOdds_190 : decode cX6_findOdds 190 = .ok (.goto (-144), 3) := by decide +kernel
theorem dX6_findOdds_193 : decode cX6_findOdds 193 = .ok (.return_, 1) := by decide +kernel
abbrev rmX6_findOdds : Room := { frames := 4, cells := 0, slots := 0, locals := 93 }
def opX6_findOdds (po : Unit → px_St → Prop) : List (Nat × px_Op) := [
  (0, px_al 1 0),
  (1, px_push 2 (.long 0)),
  (2, px_putl dM 5 6 15),
  (5, px_al 6 0),
  (6, px_push 7 (.long 0)),
  (7, px_putl dM 10 6 16),
  (10, px_al 11 0),
  (11, px_push 12 (.long 1)),
  (12, px_putl dM 15 6 17),
  (15, px_push 16 (.int 0)),
  (16, px_is 18 5),
  (18, px_il 20 5),
  (20, px_il 22 4),
  (22, px_ic 25 43 (fun x y => y ≤ x)),
  (25, px_al 26 0),
  (26, px_dup 27),
  (27, px_get dM 30 6 17),
  (30, px_push 33 (.long 10)),
  (33, px_binL 34 (fun x y => x * y)),
  (34, px_putl dM 37 6 17),
  (37, px_inc 40 5 1),
  (40, px_go 18),
  (43, px_push 44 (.int 0)),
  (44, px_is 46 5),
  (46, px_il 48 5),
  (48, px_push 49 (.int 1)),
  (49, px_il 51 4),
  (51, px_bin 52 (fun x y => x <<< (y &&& 31))),
  (52, px_ic 55 193 (fun x y => y ≤ x)),
  (55, px_push 56 (.long 1)),
  (56, px_ls 58 6),
  (58, px_al 59 0),
  (59, px_callV dM 62 6 0 px_vV prX6_starts poX6_starts),
  (62, px_push 63 (.int 0)),
  (63, px_is 65 8),
  (65, px_il 67 8),
  (67, px_il 69 4),
  (69, px_ic 72 139 (fun x y => y ≤ x)),
  (72, px_il 74 5),
  (74, px_il 76 8),
  (76, px_bin 77 (fun x y => x >>> (y &&& 31))),
  (77, px_push 78 (.int 1)),
  (78, px_bin 79 (fun x y => x &&& y)),
  (79, px_push 80 (.int 1)),
  (80, px_ic 83 87 (fun x y => ¬ x = y)),
  (83, px_push 84 (.int 1)),
  (84, px_go 88),
  (87, px_push 88 (.int 0)),
  (88, px_is 90 9),
  (90, px_ll 92 6),
  (92, px_il 94 9),
  (94, px_if 97 102 (fun x => x = 0)),
  (97, px_il 98 1),
  (98, px_i2l 99),
  (99, px_go 107),
  (102, px_push 104 (.int 10)),
  (104, px_il 105 1),
  (105, px_bin 106 (fun x y => x - y)),
  (106, px_i2l 107),
  (107, px_binL 108 (fun x y => x * y)),
  (108, px_ls 110 6),
  (110, px_il 112 9),
  (112, px_if 115 129 (fun x => x = 0)),
  (115, px_al 116 0),
  (116, px_get dM 119 6 1),
  (119, px_push 121 (.int 47)),
  (121, px_dup2 122),
  (122, px_ald dM 123 0),
  (123, px_push 124 (.int 1)),
  (124, px_bin 125 (fun x y => x + y)),
  (125, px_ast dM 126 0 (fun x => x)),
  (126, px_go 133),
  (129, px_al 130 0),
  (130, px_callV dM 133 6 0 px_vV prX6_dayGoes poX6_dayGoes),
  (133, px_inc 136 8 1),
  (136, px_go 65),
  (139, px_al 140 0),
  (140, px_dup 141),
  (141, px_get dM 144 6 15),
  (144, px_il 145 2),
  (145, px_push 147 (.int (-4))),
  (147, px_ic 150 164 (fun x y => x = y)),
  (150, px_al 151 0),
  (151, px_il 152 2),
  (152, px_il 153 3),
  (153, px_callV dM 156 6 2 px_vI prX6_hasSound poX6_hasSound),
  (156, px_if 159 164 (fun x => x = 0)),
  (159, px_ll 161 6),
  (161, px_go 165),
  (164, px_push 165 (.long 0)),
  (165, px_binL 166 (fun x y => x + y)),
  (166, px_putl dM 169 6 15),
  (169, px_al 170 0),
  (170, px_dup 171),
  (171, px_get dM 174 6 16),
  (174, px_ll 176 6),
  (176, px_al 177 0),
  (177, px_il 178 3),
  (178, px_callV dM 181 6 1 px_vI prX6_knowingMany poX6_knowingMany),
  (181, px_i2l 182),
  (182, px_binL 183 (fun x y => x * y)),
  (183, px_binL 184 (fun x y => x + y)),
  (184, px_putl dM 187 6 16),
  (187, px_inc 190 5 1),
  (190, px_go 46),
  (193, px_vret po)]
set_option maxRecDepth 100000 in
set_option maxHeartbeats 4000000 in
theorem okX6_findOdds : ∀ (po : Unit → px_St → Prop) (i pc : Nat) (op : px_Op), (opX6_findOdds po)[i]? = some (pc, op) → px_Snd (cX6_findOdds, 10, RX6, Cond.code yX6_findOdds cX6_findOdds 10 none :: wdM, none, rmX6_findOdds, dM) px_vV po pc op := by
  intro po
  unfold opX6_findOdds
  refine px_ok_cons (ps_aload_n dX6_findOdds_0 rfl) ?_
  refine px_ok_cons (ps_lconst dX6_findOdds_1 (by decide)) ?_
  refine px_ok_cons (fpX6_242 dX6_findOdds_2) ?_
  refine px_ok_cons (ps_aload_n dX6_findOdds_5 rfl) ?_
  refine px_ok_cons (ps_lconst dX6_findOdds_6 (by decide)) ?_
  refine px_ok_cons (fpX6_246 dX6_findOdds_7) ?_
  refine px_ok_cons (ps_aload_n dX6_findOdds_10 rfl) ?_
  refine px_ok_cons (ps_lconst dX6_findOdds_11 (by decide)) ?_
  refine px_ok_cons (fpX6_249 dX6_findOdds_12) ?_
  refine px_ok_cons (ps_iconst dX6_findOdds_15 (by decide)) ?_
  refine px_ok_cons (ps_istore dX6_findOdds_16 (by decide)) ?_
  refine px_ok_cons (ps_iload dX6_findOdds_18) ?_
  refine px_ok_cons (ps_iload dX6_findOdds_20) ?_
  refine px_ok_cons (ps_icmp_ge dX6_findOdds_22 (by decide)) ?_
  refine px_ok_cons (ps_aload_n dX6_findOdds_25 rfl) ?_
  refine px_ok_cons (ps_dup dX6_findOdds_26) ?_
  refine px_ok_cons (fgX6_249 dX6_findOdds_27) ?_
  refine px_ok_cons (ps_ldc2 (List.mem_cons_of_mem _ (wdM_3_in _ (List.mem_of_getElem? (i := 23) rfl))) dX6_findOdds_30) ?_
  refine px_ok_cons (ps_lmul dX6_findOdds_33) ?_
  refine px_ok_cons (fpX6_249 dX6_findOdds_34) ?_
  refine px_ok_cons (ps_iinc dX6_findOdds_37 (by decide) (by decide)) ?_
  refine px_ok_cons (ps_goto dX6_findOdds_40 (by decide)) ?_
  refine px_ok_cons (ps_iconst dX6_findOdds_43 (by decide)) ?_
  refine px_ok_cons (ps_istore dX6_findOdds_44 (by decide)) ?_
  refine px_ok_cons (ps_iload dX6_findOdds_46) ?_
  refine px_ok_cons (ps_iconst dX6_findOdds_48 (by decide)) ?_
  refine px_ok_cons (ps_iload dX6_findOdds_49) ?_
  refine px_ok_cons (ps_ishl dX6_findOdds_51) ?_
  refine px_ok_cons (ps_icmp_ge dX6_findOdds_52 (by decide)) ?_
  refine px_ok_cons (ps_lconst dX6_findOdds_55 (by decide)) ?_
  refine px_ok_cons (ps_lstore dX6_findOdds_56 (by decide)) ?_
  refine px_ok_cons (ps_aload_n dX6_findOdds_58 rfl) ?_
  refine px_ok_cons (ps_callV mX6_starts (fun _ _ => rfl) (C := RX6) rfl (fun _ _ ht => px_cwV wgM (wdM_3_in _ (List.mem_of_getElem? (i := 19) rfl)) (wdM_3_in _ (List.mem_of_getElem? (i := 20) rfl)) (wdM_3_in _ (List.mem_of_getElem? (i := 21) rfl)) (wdM_0_in _ (List.mem_of_getElem? (i := 22) rfl)) (wdM_2_in _ (List.mem_of_getElem? (i := 11) rfl)) (by decide +kernel) rfl rfl (by decide) ht) dX6_findOdds_59) ?_
  refine px_ok_cons (ps_iconst dX6_findOdds_62 (by decide)) ?_
  refine px_ok_cons (ps_istore dX6_findOdds_63 (by decide)) ?_
  refine px_ok_cons (ps_iload dX6_findOdds_65) ?_
  refine px_ok_cons (ps_iload dX6_findOdds_67) ?_
  refine px_ok_cons (ps_icmp_ge dX6_findOdds_69 (by decide)) ?_
  refine px_ok_cons (ps_iload dX6_findOdds_72) ?_
  refine px_ok_cons (ps_iload dX6_findOdds_74) ?_
  refine px_ok_cons (ps_ishr dX6_findOdds_76) ?_
  refine px_ok_cons (ps_iconst dX6_findOdds_77 (by decide)) ?_
  refine px_ok_cons (ps_iand dX6_findOdds_78) ?_
  refine px_ok_cons (ps_iconst dX6_findOdds_79 (by decide)) ?_
  refine px_ok_cons (ps_icmp_ne dX6_findOdds_80 (by decide)) ?_
  refine px_ok_cons (ps_iconst dX6_findOdds_83 (by decide)) ?_
  refine px_ok_cons (ps_goto dX6_findOdds_84 (by decide)) ?_
  refine px_ok_cons (ps_iconst dX6_findOdds_87 (by decide)) ?_
  refine px_ok_cons (ps_istore dX6_findOdds_88 (by decide)) ?_
  refine px_ok_cons (ps_lload dX6_findOdds_90) ?_
  refine px_ok_cons (ps_iload dX6_findOdds_92) ?_
  refine px_ok_cons (ps_if_eq dX6_findOdds_94 (by decide)) ?_
  refine px_ok_cons (ps_iload_n dX6_findOdds_97 rfl) ?_
  refine px_ok_cons (ps_i2l dX6_findOdds_98) ?_
  refine px_ok_cons (ps_goto dX6_findOdds_99 (by decide)) ?_
  refine px_ok_cons (ps_bipush dX6_findOdds_102 (by decide)) ?_
  refine px_ok_cons (ps_iload_n dX6_findOdds_104 rfl) ?_
  refine px_ok_cons (ps_isub dX6_findOdds_105) ?_
  refine px_ok_cons (ps_i2l dX6_findOdds_106) ?_
  refine px_ok_cons (ps_lmul dX6_findOdds_107) ?_
  refine px_ok_cons (ps_lstore dX6_findOdds_108 (by decide)) ?_
  refine px_ok_cons (ps_iload dX6_findOdds_110) ?_
  refine px_ok_cons (ps_if_eq dX6_findOdds_112 (by decide)) ?_
  refine px_ok_cons (ps_aload_n dX6_findOdds_115 rfl) ?_
  refine px_ok_cons (fgX6_13 dX6_findOdds_116) ?_
  refine px_ok_cons (ps_bipush dX6_findOdds_119 (by decide)) ?_
  refine px_ok_cons (ps_dup2 dX6_findOdds_121) ?_
  refine px_ok_cons (ps_iaload dX6_findOdds_122) ?_
  refine px_ok_cons (ps_iconst dX6_findOdds_123 (by decide)) ?_
  refine px_ok_cons (ps_iadd dX6_findOdds_124) ?_
  refine px_ok_cons (ps_iastore dX6_findOdds_125) ?_
  refine px_ok_cons (ps_goto dX6_findOdds_126 (by decide)) ?_
  refine px_ok_cons (ps_aload_n dX6_findOdds_129 rfl) ?_
  refine px_ok_cons (ps_callV mX6_dayGoes (fun _ _ => rfl) (C := RX6) rfl (fun _ _ ht => px_cwV wgM (wdM_3_in _ (List.mem_of_getElem? (i := 6) rfl)) (wdM_3_in _ (List.mem_of_getElem? (i := 7) rfl)) (wdM_3_in _ (List.mem_of_getElem? (i := 8) rfl)) (wdM_0_in _ (List.mem_of_getElem? (i := 22) rfl)) (wdM_3_in _ (List.mem_of_getElem? (i := 5) rfl)) (by decide +kernel) rfl rfl (by decide) ht) dX6_findOdds_130) ?_
  refine px_ok_cons (ps_iinc dX6_findOdds_133 (by decide) (by decide)) ?_
  refine px_ok_cons (ps_goto dX6_findOdds_136 (by decide)) ?_
  refine px_ok_cons (ps_aload_n dX6_findOdds_139 rfl) ?_
  refine px_ok_cons (ps_dup dX6_findOdds_140) ?_
  refine px_ok_cons (fgX6_242 dX6_findOdds_141) ?_
  refine px_ok_cons (ps_iload_n dX6_findOdds_144 rfl) ?_
  refine px_ok_cons (ps_bipush dX6_findOdds_145 (by decide)) ?_
  refine px_ok_cons (ps_icmp_eq dX6_findOdds_147 (by decide)) ?_
  refine px_ok_cons (ps_aload_n dX6_findOdds_150 rfl) ?_
  refine px_ok_cons (ps_iload_n dX6_findOdds_151 rfl) ?_
  refine px_ok_cons (ps_iload_n dX6_findOdds_152 rfl) ?_
  refine px_ok_cons (ps_callV mX6_hasSound (fun _ _ => rfl) (C := RX6) rfl (fun _ _ ht => px_cwV wgM (wdM_2_in _ (List.mem_of_getElem? (i := 26) rfl)) (wdM_2_in _ (List.mem_of_getElem? (i := 27) rfl)) (wdM_2_in _ (List.mem_of_getElem? (i := 28) rfl)) (wdM_0_in _ (List.mem_of_getElem? (i := 22) rfl)) (wdM_2_in _ (List.mem_of_getElem? (i := 15) rfl)) (by decide +kernel) rfl rfl (by decide) ht) dX6_findOdds_153) ?_
  refine px_ok_cons (ps_if_eq dX6_findOdds_156 (by decide)) ?_
  refine px_ok_cons (ps_lload dX6_findOdds_159) ?_
  refine px_ok_cons (ps_goto dX6_findOdds_161 (by decide)) ?_
  refine px_ok_cons (ps_lconst dX6_findOdds_164 (by decide)) ?_
  refine px_ok_cons (ps_ladd dX6_findOdds_165) ?_
  refine px_ok_cons (fpX6_242 dX6_findOdds_166) ?_
  refine px_ok_cons (ps_aload_n dX6_findOdds_169 rfl) ?_
  refine px_ok_cons (ps_dup dX6_findOdds_170) ?_
  refine px_ok_cons (fgX6_246 dX6_findOdds_171) ?_
  refine px_ok_cons (ps_lload dX6_findOdds_174) ?_
  refine px_ok_cons (ps_aload_n dX6_findOdds_176 rfl) ?_
  refine px_ok_cons (ps_iload_n dX6_findOdds_177 rfl) ?_
  refine px_ok_cons (ps_callV mX6_knowingMany (fun _ _ => rfl) (C := RX6) rfl (fun _ _ ht => px_cwV wgM (wdM_5_in _ (List.mem_of_getElem? (i := 19) rfl)) (wdM_5_in _ (List.mem_of_getElem? (i := 20) rfl)) (wdM_5_in _ (List.mem_of_getElem? (i := 21) rfl)) (wdM_0_in _ (List.mem_of_getElem? (i := 22) rfl)) (wdM_3_in _ (List.mem_of_getElem? (i := 15) rfl)) (by decide +kernel) rfl rfl (by decide) ht) dX6_findOdds_178) ?_
  refine px_ok_cons (ps_i2l dX6_findOdds_181) ?_
  refine px_ok_cons (ps_lmul dX6_findOdds_182) ?_
  refine px_ok_cons (ps_ladd dX6_findOdds_183) ?_
  refine px_ok_cons (fpX6_246 dX6_findOdds_184) ?_
  refine px_ok_cons (ps_iinc dX6_findOdds_187 (by decide) (by decide)) ?_
  refine px_ok_cons (ps_goto dX6_findOdds_190 (by decide)) ?_
  refine px_ok_cons (ps_return rfl dX6_findOdds_193) ?_
  exact px_ok_nil
set_option maxRecDepth 100000 in
set_option maxHeartbeats 4000000 in
theorem sgX6_findOdds_0 {po : Unit → px_St → Prop} {G : px_K} (hG : px_cl (opX6_findOdds po) G) (v1 : Int32) (v2 : Int32) (v3 : Int32) (v4 : Int32) (σ : px_St)
    (H : G 18 [some (.ref 0), some (.int v1), some (.int v2), some (.int v3), some (.int v4), some (.int (0 : Int32)), none, none, none, none] [] (px_upl (px_upl (px_upl σ 0 15 (0 : Int64)) 0 16 (0 : Int64)) 0 17 (1 : Int64))) :
    G 0 (px_ent 10 [.ref 0, .int v1, .int v2, .int v3, .int v4]) [] σ := by
  refine hG.1 0 _ _ rfl _ _ _ ?_
  refine hG.1 1 _ _ rfl _ _ _ ?_
  refine hG.1 2 _ _ rfl _ _ _ ?_
  refine ⟨⟨rfl, by decide⟩, ⟨trivial, trivial⟩, ?_⟩
  refine hG.1 3 _ _ rfl _ _ _ ?_
  refine hG.1 4 _ _ rfl _ _ _ ?_
  refine hG.1 5 _ _ rfl _ _ _ ?_
  refine ⟨⟨rfl, by decide⟩, ⟨trivial, trivial⟩, ?_⟩
  refine hG.1 6 _ _ rfl _ _ _ ?_
  refine hG.1 7 _ _ rfl _ _ _ ?_
  refine hG.1 8 _ _ rfl _ _ _ ?_
  refine ⟨⟨rfl, by decide⟩, ⟨trivial, trivial⟩, ?_⟩
  refine hG.1 9 _ _ rfl _ _ _ ?_
  refine hG.1 10 _ _ rfl _ _ _ ?_
  show G 18 [some (.ref 0), some (.int v1), some (.int v2), some (.int v3), some (.int v4), some (.int (0 : Int32)), none, none, none, none] [] (px_upl (px_upl (px_upl σ 0 15 (0 : Int64)) 0 16 (0 : Int64)) 0 17 (1 : Int64))
  exact H
set_option maxRecDepth 100000 in
set_option maxHeartbeats 4000000 in
theorem sgX6_findOdds_18 {po : Unit → px_St → Prop} {G : px_K} (hG : px_cl (opX6_findOdds po) G) (v1 : Int32) (v2 : Int32) (v3 : Int32) (v4 : Int32) (v5 : Int32) (σ : px_St)
    (H : ((v4 ≤ v5) → G 46 [some (.ref 0), some (.int v1), some (.int v2), some (.int v3), some (.int v4), some (.int (0 : Int32)), none, none, none, none] [] σ) ∧ (¬ (v4 ≤ v5) → G 18 [some (.ref 0), some (.int v1), some (.int v2), some (.int v3), some (.int v4), some (.int (v5 + 1)), none, none, none, none] [] (px_upl σ 0 17 ((σ.2 0 17) * (10 : Int64))))) :
    G 18 [some (.ref 0), some (.int v1), some (.int v2), some (.int v3), some (.int v4), some (.int v5), none, none, none, none] [] σ := by
  refine hG.1 11 _ _ rfl _ _ _ ?_
  refine hG.1 12 _ _ rfl _ _ _ ?_
  refine hG.1 13 _ _ rfl _ _ _ ?_
  refine ⟨fun h1 => ?_, fun h1 => ?_⟩
  · replace H := H.1 h1
    refine hG.1 22 _ _ rfl _ _ _ ?_
    refine hG.1 23 _ _ rfl _ _ _ ?_
    show G 46 [some (.ref 0), some (.int v1), some (.int v2), some (.int v3), some (.int v4), some (.int (0 : Int32)), none, none, none, none] [] σ
    exact H
  · replace H := H.2 h1
    refine hG.1 14 _ _ rfl _ _ _ ?_
    refine hG.1 15 _ _ rfl _ _ _ ?_
    refine hG.1 16 _ _ rfl _ _ _ ?_
    refine ⟨⟨rfl, by decide⟩, ?_⟩
    refine hG.1 17 _ _ rfl _ _ _ ?_
    refine hG.1 18 _ _ rfl _ _ _ ?_
    refine hG.1 19 _ _ rfl _ _ _ ?_
    refine ⟨⟨rfl, by decide⟩, ⟨trivial, trivial⟩, ?_⟩
    refine hG.1 20 _ _ rfl _ _ _ ?_
    show G 40 [some (.ref 0), some (.int v1), some (.int v2), some (.int v3), some (.int v4), some (.int (v5 + 1)), none, none, none, none] [] (px_upl σ 0 17 ((σ.2 0 17) * (10 : Int64)))
    refine hG.1 21 _ _ rfl _ _ _ ?_
    exact H
set_option maxRecDepth 100000 in
set_option maxHeartbeats 4000000 in
theorem sgX6_findOdds_46 {po : Unit → px_St → Prop} {G : px_K} (hG : px_cl (opX6_findOdds po) G) (v1 : Int32) (v2 : Int32) (v3 : Int32) (v4 : Int32) (v5 : Int32) (σ : px_St)
    (H : ((((1 : Int32) <<< (v4 &&& 31)) ≤ v5) → po () σ) ∧ (¬ (((1 : Int32) <<< (v4 &&& 31)) ≤ v5) → ∃ g3 : gtX6_starts, qrX6_starts g3 σ ∧ ∀ (r1 : Unit) (σ2 : px_St), qoX6_starts g3 σ r1 σ2 → G 65 [some (.ref 0), some (.int v1), some (.int v2), some (.int v3), some (.int v4), some (.int v5), some (.long (1 : Int64)), none, some (.int (0 : Int32)), none] [] σ2)) :
    G 46 [some (.ref 0), some (.int v1), some (.int v2), some (.int v3), some (.int v4), some (.int v5), none, none, none, none] [] σ := by
  refine hG.1 24 _ _ rfl _ _ _ ?_
  refine hG.1 25 _ _ rfl _ _ _ ?_
  refine hG.1 26 _ _ rfl _ _ _ ?_
  refine hG.1 27 _ _ rfl _ _ _ ?_
  refine hG.1 28 _ _ rfl _ _ _ ?_
  refine ⟨fun h5 => ?_, fun h5 => ?_⟩
  · replace H := H.1 h5
    refine hG.1 105 _ _ rfl _ _ _ ?_
    exact H
  · replace H := H.2 h5
    refine hG.1 29 _ _ rfl _ _ _ ?_
    refine hG.1 30 _ _ rfl _ _ _ ?_
    show G 58 [some (.ref 0), some (.int v1), some (.int v2), some (.int v3), some (.int v4), some (.int v5), some (.long (1 : Int64)), none, none, none] [] σ
    refine hG.1 31 _ _ rfl _ _ _ ?_
    refine hG.1 32 _ _ rfl _ _ _ ?_
    obtain ⟨g3, H⟩ := H
    refine ⟨⟨rfl, by decide⟩, Nat.le_of_ble_eq_true rfl, g3, ⟨rfl, H.1⟩, fun r1 σ2 hp4 => ?_⟩
    replace H := H.2 r1 σ2 hp4
    refine hG.1 33 _ _ rfl _ _ _ ?_
    refine hG.1 34 _ _ rfl _ _ _ ?_
    show G 65 [some (.ref 0), some (.int v1), some (.int v2), some (.int v3), some (.int v4), some (.int v5), some (.long (1 : Int64)), none, some (.int (0 : Int32)), none] [] σ2
    exact H
set_option maxRecDepth 100000 in
set_option maxHeartbeats 4000000 in
theorem sgX6_findOdds_65 {po : Unit → px_St → Prop} {G : px_K} (hG : px_cl (opX6_findOdds po) G) (v1 : Int32) (v2 : Int32) (v3 : Int32) (v4 : Int32) (v5 : Int32) (v6 : Int64) (v8 : Int32) (σ : px_St)
    (H : ((v4 ≤ v8) → ((v2 = (-4 : Int32)) → ∃ g3 : gtX6_knowingMany, qrX6_knowingMany g3 v3 (px_upl σ 0 15 ((σ.2 0 15) + (0 : Int64))) ∧ ∀ (r1 : Int32) (σ2 : px_St), qoX6_knowingMany g3 v3 (px_upl σ 0 15 ((σ.2 0 15) + (0 : Int64))) r1 σ2 → G 46 [some (.ref 0), some (.int v1), some (.int v2), some (.int v3), some (.int v4), some (.int (v5 + 1)), none, none, none, none] [] (px_upl σ2 0 16 (((px_upl σ 0 15 ((σ.2 0 15) + (0 : Int64))).2 0 16) + (v6 * r1.toInt64)))) ∧ (¬ (v2 = (-4 : Int32)) → ∃ g7 : gtX6_hasSound, qrX6_hasSound g7 v2 v3 σ ∧ ∀ (r5 : Int32) (σ6 : px_St), qoX6_hasSound g7 v2 v3 σ r5 σ6 → ((r5 = 0) → ∃ g11 : gtX6_knowingMany, qrX6_knowingMany g11 v3 (px_upl σ6 0 15 ((σ.2 0 15) + (0 : Int64))) ∧ ∀ (r9 : Int32) (σ10 : px_St), qoX6_knowingMany g11 v3 (px_upl σ6 0 15 ((σ.2 0 15) + (0 : Int64))) r9 σ10 → G 46 [some (.ref 0), some (.int v1), some (.int v2), some (.int v3), some (.int v4), some (.int (v5 + 1)), none, none, none, none] [] (px_upl σ10 0 16 (((px_upl σ6 0 15 ((σ.2 0 15) + (0 : Int64))).2 0 16) + (v6 * r9.toInt64)))) ∧ (¬ (r5 = 0) → ∃ g15 : gtX6_knowingMany, qrX6_knowingMany g15 v3 (px_upl σ6 0 15 ((σ.2 0 15) + v6)) ∧ ∀ (r13 : Int32) (σ14 : px_St), qoX6_knowingMany g15 v3 (px_upl σ6 0 15 ((σ.2 0 15) + v6)) r13 σ14 → G 46 [some (.ref 0), some (.int v1), some (.int v2), some (.int v3), some (.int v4), some (.int (v5 + 1)), none, none, none, none] [] (px_upl σ14 0 16 (((px_upl σ6 0 15 ((σ.2 0 15) + v6)).2 0 16) + (v6 * r13.toInt64)))))) ∧ (¬ (v4 ≤ v8) → ((¬ ((v5 >>> (v8 &&& 31)) &&& (1 : Int32)) = (1 : Int32)) → (((0 : Int32) = 0) → (((0 : Int32) = 0) → ∃ g21 : gtX6_dayGoes, qrX6_dayGoes g21 σ ∧ ∀ (r19 : Unit) (σ20 : px_St), qoX6_dayGoes g21 σ r19 σ20 → G 65 [some (.ref 0), some (.int v1), some (.int v2), some (.int v3), some (.int v4), some (.int v5), some (.long (v6 * (((10 : Int32) - v1).toInt64))), none, some (.int (v8 + 1)), none] [] σ20) ∧ (¬ ((0 : Int32) = 0) → vp_in (47 : Int32) 61 ∧ vp_in (47 : Int32) 61 ∧ G 65 [some (.ref 0), some (.int v1), some (.int v2), some (.int v3), some (.int v4), some (.int v5), some (.long (v6 * (((10 : Int32) - v1).toInt64))), none, some (.int (v8 + 1)), none] [] (px_up σ 2 (47 : Int32).toNatClampNeg ((σ.1 2 (47 : Int32).toNatClampNeg) + (1 : Int32))))) ∧ (¬ ((0 : Int32) = 0) → (((0 : Int32) = 0) → ∃ g26 : gtX6_dayGoes, qrX6_dayGoes g26 σ ∧ ∀ (r24 : Unit) (σ25 : px_St), qoX6_dayGoes g26 σ r24 σ25 → G 65 [some (.ref 0), some (.int v1), some (.int v2), some (.int v3), some (.int v4), some (.int v5), some (.long (v6 * v1.toInt64)), none, some (.int (v8 + 1)), none] [] σ25) ∧ (¬ ((0 : Int32) = 0) → vp_in (47 : Int32) 61 ∧ vp_in (47 : Int32) 61 ∧ G 65 [some (.ref 0), some (.int v1), some (.int v2), some (.int v3), some (.int v4), some (.int v5), some (.long (v6 * v1.toInt64)), none, some (.int (v8 + 1)), none] [] (px_up σ 2 (47 : Int32).toNatClampNeg ((σ.1 2 (47 : Int32).toNatClampNeg) + (1 : Int32)))))) ∧ (¬ (¬ ((v5 >>> (v8 &&& 31)) &&& (1 : Int32)) = (1 : Int32)) → (((1 : Int32) = 0) → (((1 : Int32) = 0) → ∃ g32 : gtX6_dayGoes, qrX6_dayGoes g32 σ ∧ ∀ (r30 : Unit) (σ31 : px_St), qoX6_dayGoes g32 σ r30 σ31 → G 65 [some (.ref 0), some (.int v1), some (.int v2), some (.int v3), some (.int v4), some (.int v5), some (.long (v6 * (((10 : Int32) - v1).toInt64))), none, some (.int (v8 + 1)), none] [] σ31) ∧ (¬ ((1 : Int32) = 0) → vp_in (47 : Int32) 61 ∧ vp_in (47 : Int32) 61 ∧ G 65 [some (.ref 0), some (.int v1), some (.int v2), some (.int v3), some (.int v4), some (.int v5), some (.long (v6 * (((10 : Int32) - v1).toInt64))), none, some (.int (v8 + 1)), none] [] (px_up σ 2 (47 : Int32).toNatClampNeg ((σ.1 2 (47 : Int32).toNatClampNeg) + (1 : Int32))))) ∧ (¬ ((1 : Int32) = 0) → (((1 : Int32) = 0) → ∃ g37 : gtX6_dayGoes, qrX6_dayGoes g37 σ ∧ ∀ (r35 : Unit) (σ36 : px_St), qoX6_dayGoes g37 σ r35 σ36 → G 65 [some (.ref 0), some (.int v1), some (.int v2), some (.int v3), some (.int v4), some (.int v5), some (.long (v6 * v1.toInt64)), none, some (.int (v8 + 1)), none] [] σ36) ∧ (¬ ((1 : Int32) = 0) → vp_in (47 : Int32) 61 ∧ vp_in (47 : Int32) 61 ∧ G 65 [some (.ref 0), some (.int v1), some (.int v2), some (.int v3), some (.int v4), some (.int v5), some (.long (v6 * v1.toInt64)), none, some (.int (v8 + 1)), none] [] (px_up σ 2 (47 : Int32).toNatClampNeg ((σ.1 2 (47 : Int32).toNatClampNeg) + (1 : Int32)))))))) :
    G 65 [some (.ref 0), some (.int v1), some (.int v2), some (.int v3), some (.int v4), some (.int v5), some (.long v6), none, some (.int v8), none] [] σ := by
  refine hG.1 35 _ _ rfl _ _ _ ?_
  refine hG.1 36 _ _ rfl _ _ _ ?_
  refine hG.1 37 _ _ rfl _ _ _ ?_
  refine ⟨fun h42 => ?_, fun h42 => ?_⟩
  · replace H := H.1 h42
    refine hG.1 76 _ _ rfl _ _ _ ?_
    refine hG.1 77 _ _ rfl _ _ _ ?_
    refine hG.1 78 _ _ rfl _ _ _ ?_
    refine ⟨⟨rfl, by decide⟩, ?_⟩
    refine hG.1 79 _ _ rfl _ _ _ ?_
    refine hG.1 80 _ _ rfl _ _ _ ?_
    refine hG.1 81 _ _ rfl _ _ _ ?_
    refine ⟨fun h18 => ?_, fun h18 => ?_⟩
    · replace H := H.1 h18
      refine hG.1 89 _ _ rfl _ _ _ ?_
      refine hG.1 90 _ _ rfl _ _ _ ?_
      refine hG.1 91 _ _ rfl _ _ _ ?_
      refine ⟨⟨rfl, by decide⟩, ⟨trivial, trivial⟩, ?_⟩
      refine hG.1 92 _ _ rfl _ _ _ ?_
      refine hG.1 93 _ _ rfl _ _ _ ?_
      refine hG.1 94 _ _ rfl _ _ _ ?_
      refine ⟨⟨rfl, by decide⟩, ?_⟩
      refine hG.1 95 _ _ rfl _ _ _ ?_
      refine hG.1 96 _ _ rfl _ _ _ ?_
      refine hG.1 97 _ _ rfl _ _ _ ?_
      refine hG.1 98 _ _ rfl _ _ _ ?_
      obtain ⟨g3, H⟩ := H
      refine ⟨⟨rfl, by decide⟩, Nat.le_of_ble_eq_true rfl, g3, ⟨_, rfl, H.1⟩, fun r1 σ2 hp4 => ?_⟩
      replace H := H.2 r1 σ2 hp4
      refine hG.1 99 _ _ rfl _ _ _ ?_
      refine hG.1 100 _ _ rfl _ _ _ ?_
      refine hG.1 101 _ _ rfl _ _ _ ?_
      refine hG.1 102 _ _ rfl _ _ _ ?_
      refine ⟨⟨rfl, by decide⟩, ⟨trivial, trivial⟩, ?_⟩
      refine hG.1 103 _ _ rfl _ _ _ ?_
      show G 190 [some (.ref 0), some (.int v1), some (.int v2), some (.int v3), some (.int v4), some (.int (v5 + 1)), some (.long v6), none, some (.int v8), none] [] (px_upl σ2 0 16 (((px_upl σ 0 15 ((σ.2 0 15) + (0 : Int64))).2 0 16) + (v6 * r1.toInt64)))
      refine hG.1 104 _ _ rfl _ _ _ ?_
      refine hG.2 46 [some (.ref 0), some (.int v1), some (.int v2), some (.int v3), some (.int v4), some (.int (v5 + 1)), none, none, none, none] _ _ _ ⟨rfl, rfl, rfl, rfl, rfl, rfl, trivial⟩ ?_
      exact H
    · replace H := H.2 h18
      refine hG.1 82 _ _ rfl _ _ _ ?_
      refine hG.1 83 _ _ rfl _ _ _ ?_
      refine hG.1 84 _ _ rfl _ _ _ ?_
      refine hG.1 85 _ _ rfl _ _ _ ?_
      obtain ⟨g7, H⟩ := H
      refine ⟨⟨rfl, by decide⟩, Nat.le_of_ble_eq_true rfl, g7, ⟨_, _, rfl, H.1⟩, fun r5 σ6 hp8 => ?_⟩
      replace H := H.2 r5 σ6 hp8
      refine hG.1 86 _ _ rfl _ _ _ ?_
      refine ⟨fun h17 => ?_, fun h17 => ?_⟩
      · replace H := H.1 h17
        refine hG.1 89 _ _ rfl _ _ _ ?_
        refine hG.1 90 _ _ rfl _ _ _ ?_
        refine hG.1 91 _ _ rfl _ _ _ ?_
        refine ⟨⟨rfl, by decide⟩, ⟨trivial, trivial⟩, ?_⟩
        refine hG.1 92 _ _ rfl _ _ _ ?_
        refine hG.1 93 _ _ rfl _ _ _ ?_
        refine hG.1 94 _ _ rfl _ _ _ ?_
        refine ⟨⟨rfl, by decide⟩, ?_⟩
        refine hG.1 95 _ _ rfl _ _ _ ?_
        refine hG.1 96 _ _ rfl _ _ _ ?_
        refine hG.1 97 _ _ rfl _ _ _ ?_
        refine hG.1 98 _ _ rfl _ _ _ ?_
        obtain ⟨g11, H⟩ := H
        refine ⟨⟨rfl, by decide⟩, Nat.le_of_ble_eq_true rfl, g11, ⟨_, rfl, H.1⟩, fun r9 σ10 hp12 => ?_⟩
        replace H := H.2 r9 σ10 hp12
        refine hG.1 99 _ _ rfl _ _ _ ?_
        refine hG.1 100 _ _ rfl _ _ _ ?_
        refine hG.1 101 _ _ rfl _ _ _ ?_
        refine hG.1 102 _ _ rfl _ _ _ ?_
        refine ⟨⟨rfl, by decide⟩, ⟨trivial, trivial⟩, ?_⟩
        refine hG.1 103 _ _ rfl _ _ _ ?_
        show G 190 [some (.ref 0), some (.int v1), some (.int v2), some (.int v3), some (.int v4), some (.int (v5 + 1)), some (.long v6), none, some (.int v8), none] [] (px_upl σ10 0 16 (((px_upl σ6 0 15 ((σ.2 0 15) + (0 : Int64))).2 0 16) + (v6 * r9.toInt64)))
        refine hG.1 104 _ _ rfl _ _ _ ?_
        refine hG.2 46 [some (.ref 0), some (.int v1), some (.int v2), some (.int v3), some (.int v4), some (.int (v5 + 1)), none, none, none, none] _ _ _ ⟨rfl, rfl, rfl, rfl, rfl, rfl, trivial⟩ ?_
        exact H
      · replace H := H.2 h17
        refine hG.1 87 _ _ rfl _ _ _ ?_
        refine hG.1 88 _ _ rfl _ _ _ ?_
        refine hG.1 90 _ _ rfl _ _ _ ?_
        refine hG.1 91 _ _ rfl _ _ _ ?_
        refine ⟨⟨rfl, by decide⟩, ⟨trivial, trivial⟩, ?_⟩
        refine hG.1 92 _ _ rfl _ _ _ ?_
        refine hG.1 93 _ _ rfl _ _ _ ?_
        refine hG.1 94 _ _ rfl _ _ _ ?_
        refine ⟨⟨rfl, by decide⟩, ?_⟩
        refine hG.1 95 _ _ rfl _ _ _ ?_
        refine hG.1 96 _ _ rfl _ _ _ ?_
        refine hG.1 97 _ _ rfl _ _ _ ?_
        refine hG.1 98 _ _ rfl _ _ _ ?_
        obtain ⟨g15, H⟩ := H
        refine ⟨⟨rfl, by decide⟩, Nat.le_of_ble_eq_true rfl, g15, ⟨_, rfl, H.1⟩, fun r13 σ14 hp16 => ?_⟩
        replace H := H.2 r13 σ14 hp16
        refine hG.1 99 _ _ rfl _ _ _ ?_
        refine hG.1 100 _ _ rfl _ _ _ ?_
        refine hG.1 101 _ _ rfl _ _ _ ?_
        refine hG.1 102 _ _ rfl _ _ _ ?_
        refine ⟨⟨rfl, by decide⟩, ⟨trivial, trivial⟩, ?_⟩
        refine hG.1 103 _ _ rfl _ _ _ ?_
        show G 190 [some (.ref 0), some (.int v1), some (.int v2), some (.int v3), some (.int v4), some (.int (v5 + 1)), some (.long v6), none, some (.int v8), none] [] (px_upl σ14 0 16 (((px_upl σ6 0 15 ((σ.2 0 15) + v6)).2 0 16) + (v6 * r13.toInt64)))
        refine hG.1 104 _ _ rfl _ _ _ ?_
        refine hG.2 46 [some (.ref 0), some (.int v1), some (.int v2), some (.int v3), some (.int v4), some (.int (v5 + 1)), none, none, none, none] _ _ _ ⟨rfl, rfl, rfl, rfl, rfl, rfl, trivial⟩ ?_
        exact H
  · replace H := H.2 h42
    refine hG.1 38 _ _ rfl _ _ _ ?_
    refine hG.1 39 _ _ rfl _ _ _ ?_
    refine hG.1 40 _ _ rfl _ _ _ ?_
    refine hG.1 41 _ _ rfl _ _ _ ?_
    refine hG.1 42 _ _ rfl _ _ _ ?_
    refine hG.1 43 _ _ rfl _ _ _ ?_
    refine hG.1 44 _ _ rfl _ _ _ ?_
    refine ⟨fun h41 => ?_, fun h41 => ?_⟩
    · replace H := H.1 h41
      refine hG.1 47 _ _ rfl _ _ _ ?_
      refine hG.1 48 _ _ rfl _ _ _ ?_
      show G 90 [some (.ref 0), some (.int v1), some (.int v2), some (.int v3), some (.int v4), some (.int v5), some (.long v6), none, some (.int v8), some (.int (0 : Int32))] [] σ
      refine hG.1 49 _ _ rfl _ _ _ ?_
      refine hG.1 50 _ _ rfl _ _ _ ?_
      refine hG.1 51 _ _ rfl _ _ _ ?_
      refine ⟨fun h29 => ?_, fun h29 => ?_⟩
      · replace H := H.1 h29
        refine hG.1 55 _ _ rfl _ _ _ ?_
        refine hG.1 56 _ _ rfl _ _ _ ?_
        refine hG.1 57 _ _ rfl _ _ _ ?_
        refine hG.1 58 _ _ rfl _ _ _ ?_
        refine hG.1 59 _ _ rfl _ _ _ ?_
        refine hG.1 60 _ _ rfl _ _ _ ?_
        show G 110 [some (.ref 0), some (.int v1), some (.int v2), some (.int v3), some (.int v4), some (.int v5), some (.long (v6 * (((10 : Int32) - v1).toInt64))), none, some (.int v8), some (.int (0 : Int32))] [] σ
        refine hG.1 61 _ _ rfl _ _ _ ?_
        refine hG.1 62 _ _ rfl _ _ _ ?_
        refine ⟨fun h23 => ?_, fun h23 => ?_⟩
        · replace H := H.1 h23
          refine hG.1 72 _ _ rfl _ _ _ ?_
          refine hG.1 73 _ _ rfl _ _ _ ?_
          obtain ⟨g21, H⟩ := H
          refine ⟨⟨rfl, by decide⟩, Nat.le_of_ble_eq_true rfl, g21, ⟨rfl, H.1⟩, fun r19 σ20 hp22 => ?_⟩
          replace H := H.2 r19 σ20 hp22
          refine hG.1 74 _ _ rfl _ _ _ ?_
          show G 136 [some (.ref 0), some (.int v1), some (.int v2), some (.int v3), some (.int v4), some (.int v5), some (.long (v6 * (((10 : Int32) - v1).toInt64))), none, some (.int (v8 + 1)), some (.int (0 : Int32))] [] σ20
          refine hG.1 75 _ _ rfl _ _ _ ?_
          refine hG.2 65 [some (.ref 0), some (.int v1), some (.int v2), some (.int v3), some (.int v4), some (.int v5), some (.long (v6 * (((10 : Int32) - v1).toInt64))), none, some (.int (v8 + 1)), none] _ _ _ ⟨rfl, rfl, rfl, rfl, rfl, rfl, rfl, rfl, trivial⟩ ?_
          exact H
        · replace H := H.2 h23
          refine hG.1 63 _ _ rfl _ _ _ ?_
          refine hG.1 64 _ _ rfl _ _ _ ?_
          refine ⟨⟨rfl, by decide⟩, ?_⟩
          refine hG.1 65 _ _ rfl _ _ _ ?_
          refine hG.1 66 _ _ rfl _ _ _ ?_
          refine hG.1 67 _ _ rfl _ _ _ ?_
          refine ⟨⟨rfl, by decide⟩, H.1, ?_⟩
          replace H := H.2
          refine hG.1 68 _ _ rfl _ _ _ ?_
          refine hG.1 69 _ _ rfl _ _ _ ?_
          refine hG.1 70 _ _ rfl _ _ _ ?_
          refine ⟨⟨rfl, by decide⟩, H.1, ?_⟩
          replace H := H.2
          refine hG.1 71 _ _ rfl _ _ _ ?_
          refine hG.1 74 _ _ rfl _ _ _ ?_
          show G 136 [some (.ref 0), some (.int v1), some (.int v2), some (.int v3), some (.int v4), some (.int v5), some (.long (v6 * (((10 : Int32) - v1).toInt64))), none, some (.int (v8 + 1)), some (.int (0 : Int32))] [] (px_up σ 2 (47 : Int32).toNatClampNeg ((σ.1 2 (47 : Int32).toNatClampNeg) + (1 : Int32)))
          refine hG.1 75 _ _ rfl _ _ _ ?_
          refine hG.2 65 [some (.ref 0), some (.int v1), some (.int v2), some (.int v3), some (.int v4), some (.int v5), some (.long (v6 * (((10 : Int32) - v1).toInt64))), none, some (.int (v8 + 1)), none] _ _ _ ⟨rfl, rfl, rfl, rfl, rfl, rfl, rfl, rfl, trivial⟩ ?_
          exact H
      · replace H := H.2 h29
        refine hG.1 52 _ _ rfl _ _ _ ?_
        refine hG.1 53 _ _ rfl _ _ _ ?_
        refine hG.1 54 _ _ rfl _ _ _ ?_
        refine hG.1 59 _ _ rfl _ _ _ ?_
        refine hG.1 60 _ _ rfl _ _ _ ?_
        show G 110 [some (.ref 0), some (.int v1), some (.int v2), some (.int v3), some (.int v4), some (.int v5), some (.long (v6 * v1.toInt64)), none, some (.int v8), some (.int (0 : Int32))] [] σ
        refine hG.1 61 _ _ rfl _ _ _ ?_
        refine hG.1 62 _ _ rfl _ _ _ ?_
        refine ⟨fun h28 => ?_, fun h28 => ?_⟩
        · replace H := H.1 h28
          refine hG.1 72 _ _ rfl _ _ _ ?_
          refine hG.1 73 _ _ rfl _ _ _ ?_
          obtain ⟨g26, H⟩ := H
          refine ⟨⟨rfl, by decide⟩, Nat.le_of_ble_eq_true rfl, g26, ⟨rfl, H.1⟩, fun r24 σ25 hp27 => ?_⟩
          replace H := H.2 r24 σ25 hp27
          refine hG.1 74 _ _ rfl _ _ _ ?_
          show G 136 [some (.ref 0), some (.int v1), some (.int v2), some (.int v3), some (.int v4), some (.int v5), some (.long (v6 * v1.toInt64)), none, some (.int (v8 + 1)), some (.int (0 : Int32))] [] σ25
          refine hG.1 75 _ _ rfl _ _ _ ?_
          refine hG.2 65 [some (.ref 0), some (.int v1), some (.int v2), some (.int v3), some (.int v4), some (.int v5), some (.long (v6 * v1.toInt64)), none, some (.int (v8 + 1)), none] _ _ _ ⟨rfl, rfl, rfl, rfl, rfl, rfl, rfl, rfl, trivial⟩ ?_
          exact H
        · replace H := H.2 h28
          refine hG.1 63 _ _ rfl _ _ _ ?_
          refine hG.1 64 _ _ rfl _ _ _ ?_
          refine ⟨⟨rfl, by decide⟩, ?_⟩
          refine hG.1 65 _ _ rfl _ _ _ ?_
          refine hG.1 66 _ _ rfl _ _ _ ?_
          refine hG.1 67 _ _ rfl _ _ _ ?_
          refine ⟨⟨rfl, by decide⟩, H.1, ?_⟩
          replace H := H.2
          refine hG.1 68 _ _ rfl _ _ _ ?_
          refine hG.1 69 _ _ rfl _ _ _ ?_
          refine hG.1 70 _ _ rfl _ _ _ ?_
          refine ⟨⟨rfl, by decide⟩, H.1, ?_⟩
          replace H := H.2
          refine hG.1 71 _ _ rfl _ _ _ ?_
          refine hG.1 74 _ _ rfl _ _ _ ?_
          show G 136 [some (.ref 0), some (.int v1), some (.int v2), some (.int v3), some (.int v4), some (.int v5), some (.long (v6 * v1.toInt64)), none, some (.int (v8 + 1)), some (.int (0 : Int32))] [] (px_up σ 2 (47 : Int32).toNatClampNeg ((σ.1 2 (47 : Int32).toNatClampNeg) + (1 : Int32)))
          refine hG.1 75 _ _ rfl _ _ _ ?_
          refine hG.2 65 [some (.ref 0), some (.int v1), some (.int v2), some (.int v3), some (.int v4), some (.int v5), some (.long (v6 * v1.toInt64)), none, some (.int (v8 + 1)), none] _ _ _ ⟨rfl, rfl, rfl, rfl, rfl, rfl, rfl, rfl, trivial⟩ ?_
          exact H
    · replace H := H.2 h41
      refine hG.1 45 _ _ rfl _ _ _ ?_
      refine hG.1 46 _ _ rfl _ _ _ ?_
      refine hG.1 48 _ _ rfl _ _ _ ?_
      show G 90 [some (.ref 0), some (.int v1), some (.int v2), some (.int v3), some (.int v4), some (.int v5), some (.long v6), none, some (.int v8), some (.int (1 : Int32))] [] σ
      refine hG.1 49 _ _ rfl _ _ _ ?_
      refine hG.1 50 _ _ rfl _ _ _ ?_
      refine hG.1 51 _ _ rfl _ _ _ ?_
      refine ⟨fun h40 => ?_, fun h40 => ?_⟩
      · replace H := H.1 h40
        refine hG.1 55 _ _ rfl _ _ _ ?_
        refine hG.1 56 _ _ rfl _ _ _ ?_
        refine hG.1 57 _ _ rfl _ _ _ ?_
        refine hG.1 58 _ _ rfl _ _ _ ?_
        refine hG.1 59 _ _ rfl _ _ _ ?_
        refine hG.1 60 _ _ rfl _ _ _ ?_
        show G 110 [some (.ref 0), some (.int v1), some (.int v2), some (.int v3), some (.int v4), some (.int v5), some (.long (v6 * (((10 : Int32) - v1).toInt64))), none, some (.int v8), some (.int (1 : Int32))] [] σ
        refine hG.1 61 _ _ rfl _ _ _ ?_
        refine hG.1 62 _ _ rfl _ _ _ ?_
        refine ⟨fun h34 => ?_, fun h34 => ?_⟩
        · replace H := H.1 h34
          refine hG.1 72 _ _ rfl _ _ _ ?_
          refine hG.1 73 _ _ rfl _ _ _ ?_
          obtain ⟨g32, H⟩ := H
          refine ⟨⟨rfl, by decide⟩, Nat.le_of_ble_eq_true rfl, g32, ⟨rfl, H.1⟩, fun r30 σ31 hp33 => ?_⟩
          replace H := H.2 r30 σ31 hp33
          refine hG.1 74 _ _ rfl _ _ _ ?_
          show G 136 [some (.ref 0), some (.int v1), some (.int v2), some (.int v3), some (.int v4), some (.int v5), some (.long (v6 * (((10 : Int32) - v1).toInt64))), none, some (.int (v8 + 1)), some (.int (1 : Int32))] [] σ31
          refine hG.1 75 _ _ rfl _ _ _ ?_
          refine hG.2 65 [some (.ref 0), some (.int v1), some (.int v2), some (.int v3), some (.int v4), some (.int v5), some (.long (v6 * (((10 : Int32) - v1).toInt64))), none, some (.int (v8 + 1)), none] _ _ _ ⟨rfl, rfl, rfl, rfl, rfl, rfl, rfl, rfl, trivial⟩ ?_
          exact H
        · replace H := H.2 h34
          refine hG.1 63 _ _ rfl _ _ _ ?_
          refine hG.1 64 _ _ rfl _ _ _ ?_
          refine ⟨⟨rfl, by decide⟩, ?_⟩
          refine hG.1 65 _ _ rfl _ _ _ ?_
          refine hG.1 66 _ _ rfl _ _ _ ?_
          refine hG.1 67 _ _ rfl _ _ _ ?_
          refine ⟨⟨rfl, by decide⟩, H.1, ?_⟩
          replace H := H.2
          refine hG.1 68 _ _ rfl _ _ _ ?_
          refine hG.1 69 _ _ rfl _ _ _ ?_
          refine hG.1 70 _ _ rfl _ _ _ ?_
          refine ⟨⟨rfl, by decide⟩, H.1, ?_⟩
          replace H := H.2
          refine hG.1 71 _ _ rfl _ _ _ ?_
          refine hG.1 74 _ _ rfl _ _ _ ?_
          show G 136 [some (.ref 0), some (.int v1), some (.int v2), some (.int v3), some (.int v4), some (.int v5), some (.long (v6 * (((10 : Int32) - v1).toInt64))), none, some (.int (v8 + 1)), some (.int (1 : Int32))] [] (px_up σ 2 (47 : Int32).toNatClampNeg ((σ.1 2 (47 : Int32).toNatClampNeg) + (1 : Int32)))
          refine hG.1 75 _ _ rfl _ _ _ ?_
          refine hG.2 65 [some (.ref 0), some (.int v1), some (.int v2), some (.int v3), some (.int v4), some (.int v5), some (.long (v6 * (((10 : Int32) - v1).toInt64))), none, some (.int (v8 + 1)), none] _ _ _ ⟨rfl, rfl, rfl, rfl, rfl, rfl, rfl, rfl, trivial⟩ ?_
          exact H
      · replace H := H.2 h40
        refine hG.1 52 _ _ rfl _ _ _ ?_
        refine hG.1 53 _ _ rfl _ _ _ ?_
        refine hG.1 54 _ _ rfl _ _ _ ?_
        refine hG.1 59 _ _ rfl _ _ _ ?_
        refine hG.1 60 _ _ rfl _ _ _ ?_
        show G 110 [some (.ref 0), some (.int v1), some (.int v2), some (.int v3), some (.int v4), some (.int v5), some (.long (v6 * v1.toInt64)), none, some (.int v8), some (.int (1 : Int32))] [] σ
        refine hG.1 61 _ _ rfl _ _ _ ?_
        refine hG.1 62 _ _ rfl _ _ _ ?_
        refine ⟨fun h39 => ?_, fun h39 => ?_⟩
        · replace H := H.1 h39
          refine hG.1 72 _ _ rfl _ _ _ ?_
          refine hG.1 73 _ _ rfl _ _ _ ?_
          obtain ⟨g37, H⟩ := H
          refine ⟨⟨rfl, by decide⟩, Nat.le_of_ble_eq_true rfl, g37, ⟨rfl, H.1⟩, fun r35 σ36 hp38 => ?_⟩
          replace H := H.2 r35 σ36 hp38
          refine hG.1 74 _ _ rfl _ _ _ ?_
          show G 136 [some (.ref 0), some (.int v1), some (.int v2), some (.int v3), some (.int v4), some (.int v5), some (.long (v6 * v1.toInt64)), none, some (.int (v8 + 1)), some (.int (1 : Int32))] [] σ36
          refine hG.1 75 _ _ rfl _ _ _ ?_
          refine hG.2 65 [some (.ref 0), some (.int v1), some (.int v2), some (.int v3), some (.int v4), some (.int v5), some (.long (v6 * v1.toInt64)), none, some (.int (v8 + 1)), none] _ _ _ ⟨rfl, rfl, rfl, rfl, rfl, rfl, rfl, rfl, trivial⟩ ?_
          exact H
        · replace H := H.2 h39
          refine hG.1 63 _ _ rfl _ _ _ ?_
          refine hG.1 64 _ _ rfl _ _ _ ?_
          refine ⟨⟨rfl, by decide⟩, ?_⟩
          refine hG.1 65 _ _ rfl _ _ _ ?_
          refine hG.1 66 _ _ rfl _ _ _ ?_
          refine hG.1 67 _ _ rfl _ _ _ ?_
          refine ⟨⟨rfl, by decide⟩, H.1, ?_⟩
          replace H := H.2
          refine hG.1 68 _ _ rfl _ _ _ ?_
          refine hG.1 69 _ _ rfl _ _ _ ?_
          refine hG.1 70 _ _ rfl _ _ _ ?_
          refine ⟨⟨rfl, by decide⟩, H.1, ?_⟩
          replace H := H.2
          refine hG.1 71 _ _ rfl _ _ _ ?_
          refine hG.1 74 _ _ rfl _ _ _ ?_
          show G 136 [some (.ref 0), some (.int v1), some (.int v2), some (.int v3), some (.int v4), some (.int v5), some (.long (v6 * v1.toInt64)), none, some (.int (v8 + 1)), some (.int (1 : Int32))] [] (px_up σ 2 (47 : Int32).toNatClampNeg ((σ.1 2 (47 : Int32).toNatClampNeg) + (1 : Int32)))
          refine hG.1 75 _ _ rfl _ _ _ ?_
          refine hG.2 65 [some (.ref 0), some (.int v1), some (.int v2), some (.int v3), some (.int v4), some (.int v5), some (.long (v6 * v1.toInt64)), none, some (.int (v8 + 1)), none] _ _ _ ⟨rfl, rfl, rfl, rfl, rfl, rfl, rfl, rfl, trivial⟩ ?_
          exact H
set_option maxRecDepth 100000 in
set_option maxHeartbeats 4000000 in
theorem hhX6_findOdds (g : gtX6_findOdds) (v1 : Int32) (v2 : Int32) (v3 : Int32) (v4 : Int32) (σ : px_St) (h : qrX6_findOdds g v1 v2 v3 v4 σ) (G : px_K) (hG : px_cl (opX6_findOdds (qoX6_findOdds g v1 v2 v3 v4 σ)) G) : G 0 (px_ent 10 [.ref 0, .int v1, .int v2, .int v3, .int v4]) [] σ := by
  obtain ⟨V, v, s, n, q⟩ := g
  obtain ⟨hV, hok, hd, hv, hs, hn, rfl, rfl, rfl, hq0, hq1⟩ := h
  have h5 := hok.1.1
  have hpn : 2 ^ n ≤ 2 ^ 8 := Nat.pow_le_pow_right (by omega) hn
  have hi47 : vp_in (47 : Int32) 61 := vpin 47 61 rfl (by omega) (by omega)
  refine sgX6_findOdds_0 hG _ _ _ _ σ ?_
  have outer : ∀ m c, c + m = 2 ^ n → ∀ σ' : px_St, (∀ k, k ≠ 2 → σ'.1 k = σ.1 k) → (∀ p, q = some p → σ'.2 0 15 = lN (pv_ws V v s n (2 ^ p) c)) → σ'.2 0 16 = lN (pv_ws V v s n 31 c) → σ'.2 0 17 = lN (10 ^ n) →
      G 46 [some (.ref 0), some (.int (nI v)), some (.int v2), some (.int (nI s)), some (.int (nI n)), some (.int (nI c)), none, none, none, none] [] σ' := by
    intro m
    induction m with
    | zero =>
      intro c hc σ' h1 h2 h3 h4
      have e : c = 2 ^ n := by omega
      refine sgX6_findOdds_46 hG _ _ _ _ _ σ' ?_
      rw [sh1 n (by omega)]
      rw [e] at h2 h3
      exact ⟨fun _ => ⟨h1, h2, h3, h4⟩, fun z => absurd (nI_le (by omega) (by omega)) z⟩
    | succ m ih =>
      intro c hc σ' h1 h2 h3 h4
      refine sgX6_findOdds_46 hG _ _ _ _ _ σ' ?_
      rw [sh1 n (by omega)]
      refine ⟨fun z => absurd z (nI_ge (by omega) (by omega)), fun _ => ⟨(), trivial, fun _ σ2 hq2 => ?_⟩⟩
      obtain ⟨a1, a2, a3⟩ := hq2
      have hV2 : mv_is (σ2.1 2) V := (show mv_is (σ'.1 1) V by rw [h1 1 (by omega)]; exact hV).cg hok.1 (fun j hj => a3 j (by omega))
      have inner : ∀ t k, k + t = n → ∀ τ : px_St, mv_is (τ.1 2) (pv_cl V c k) → (∀ j, j ≠ 2 → τ.1 j = σ.1 j) → τ.2 = σ'.2 → G 65 [some (.ref 0), some (.int (nI v)), some (.int v2), some (.int (nI s)), some (.int (nI n)), some (.int (nI c)), some (.long (lN (pv_wt v c k))), none, some (.int (nI k)), none] [] τ := by
        intro t
        induction t with
        | zero =>
          intro k hk τ t1 t2 t3
          have e : k = n := by omega
          subst e
          have hclw := (pv_cl_ok hok c k (by omega)).1
          have hcn := (pv_cl_n V c k).1
          refine sgX6_findOdds_65 hG _ _ _ _ _ _ _ τ ⟨fun _ => ?_, fun z => absurd (Int32.le_refl _) z⟩
          have many : pv_pc (pv_kn (pv_cl V c k) s V.1 &&& 31) 10 = pv_many (pv_cl V c k) s V.1 := kn_31 _ _ _ h5
          have hml := pv_many_le (pv_cl V c k) s V.1
          -- how the second sum and the rest go on, once the first is set
          have go : ∀ (τ2 : px_St), τ2.1 = τ.1 → τ2.2 0 16 = τ.2 0 16 → τ2.2 0 17 = τ.2 0 17 → (∀ p, q = some p → τ2.2 0 15 = lN (pv_ws V v s k (2 ^ p) (c + 1))) →
              ∃ g3 : gtX6_knowingMany, qrX6_knowingMany g3 (nI s) τ2 ∧ ∀ (r1 : Int32) (σ9 : px_St), qoX6_knowingMany g3 (nI s) τ2 r1 σ9 → G 46 [some (.ref 0), some (.int (nI v)), some (.int v2), some (.int (nI s)), some (.int (nI k)), some (.int (nI c + 1)), none, none, none, none] [] (px_upl σ9 0 16 (τ2.2 0 16 + lN (pv_wt v c k) * r1.toInt64)) := by
            intro τ2 u1 u2 u3 u4
            refine ⟨(pv_cl V c k, s), ⟨by rw [u1]; exact t1, hclw, hs, rfl⟩, fun r σ9 hq9 => ?_⟩
            obtain ⟨rfl, rfl⟩ := hq9
            rw [hcn, nI_l (by omega), u2, t3, h3, lN_mul, lN_add, nI_1]
            refine ih (c + 1) (by omega) _ (fun j hj => ?_) (fun p hp => ?_) ?_ ?_
            · rw [px_upl_1, u1]; exact t2 j hj
            · rw [px_upl_at, if_neg (by omega)]; exact u4 p hp
            · rw [px_upl_at, if_pos ⟨rfl, rfl⟩, pv_ws, many]
            · rw [px_upl_at, if_neg (by omega), u3, t3]; exact h4
          refine ⟨fun hv2 => ?_, fun hv2 => ?_⟩
          · refine go (px_upl τ 0 15 (τ.2 0 15 + 0)) rfl (by rw [px_upl_at, if_neg (by omega)]) (by rw [px_upl_at, if_neg (by omega)]) (fun p hp => ?_)
            have := (hq1 p hp).2
            rw [hv2] at this
            exact absurd (show nI p < 0 by rw [← this]; decide) (nI_pos (by have := (hq1 p hp).1; omega))
          · cases hqc : q with
            | none => exact absurd (hq0 hqc) hv2
            | some p =>
              obtain ⟨hp, e2⟩ := hq1 p hqc
              subst e2
              refine ⟨(pv_cl V c k, p, s), ⟨t1, hclw, by rw [hcn]; exact hp, hs, rfl, rfl⟩, fun r σ9 hq9 => ?_⟩
              obtain ⟨rfl, hb⟩ := hq9
              have e15 : σ9.2 0 15 = lN (pv_ws V v s k (2 ^ p) c) := by rw [t3]; exact h2 p hqc
              have kp := kn_pc (pv_cl V c k) s p V.1 h5 hp
              refine bz2 hb (fun hm => ?_) (fun hm => ?_)
              · refine go (px_upl σ9 0 15 (σ9.2 0 15 + lN (pv_wt v c k))) rfl (by rw [px_upl_at, if_neg (by omega)]) (by rw [px_upl_at, if_neg (by omega)]) (fun p2 hp2 => ?_)
                rw [hqc] at hp2
                cases hp2
                rw [px_upl_at, if_pos ⟨rfl, rfl⟩, e15, pv_ws, kp, if_pos hm, Nat.mul_one, lN_add]
              · refine go (px_upl σ9 0 15 (σ9.2 0 15 + 0)) rfl (by rw [px_upl_at, if_neg (by omega)]) (by rw [px_upl_at, if_neg (by omega)]) (fun p2 hp2 => ?_)
                rw [hqc] at hp2
                cases hp2
                rw [px_upl_at, if_pos ⟨rfl, rfl⟩, e15, pv_ws, kp, if_neg hm, Nat.mul_zero, Nat.add_zero, show (0 : Int64) = lN 0 from rfl, lN_add, Nat.add_zero]
        | succ t iht =>
          intro k hk τ t1 t2 t3
          have hdk := (pv_cl_n V c k).2
          have e1 : nI (c / 2 ^ k % 2) = 1 ↔ c / 2 ^ k % 2 = 1 := nIe _ 1 rfl rfl (by omega) (by omega)
          refine sgX6_findOdds_65 hG _ _ _ _ _ _ _ τ ⟨fun z => absurd z (nI_ge (by omega) (by omega)), fun _ => ?_⟩
          rw [bitAt (by omega) (by omega), e1, nI_1, show (10 : Int32) - nI v = nI (10 - v) from pk_sub hv, nI_l (show 10 - v < 2 ^ 31 by omega), nI_l (show v < 2 ^ 31 by omega), lN_mul, lN_mul, c47]
          refine ⟨fun hb => ⟨fun _ => ⟨fun _ => ⟨pv_cl V c k, ⟨t1, pv_cl_ok hok c k (by omega), by omega⟩, fun _ σ9 hq9 => ?_⟩, fun z => absurd rfl z⟩, fun z => absurd rfl z⟩, fun hb => ⟨fun z => absurd z (by decide), fun _ => ⟨fun z => absurd z (by decide), fun _ => ⟨hi47, hi47, ?_⟩⟩⟩⟩
          · obtain ⟨p1, p2⟩ := hq9
            have e := iht (k + 1) (by omega) σ9
            rw [pv_cl, if_neg hb, pv_wt, if_neg hb] at e
            exact e p1 (fun j hj => (p2.1 j hj).trans (t2 j hj)) (p2.2.1.trans t3)
          · have hb' := Classical.byContradiction hb
            have e := iht (k + 1) (by omega) (px_up τ 2 47 (τ.1 2 47 + 1))
            rw [pv_cl, if_pos hb', pv_wt, if_pos hb'] at e
            refine e ?_ (fun j hj => by rw [px_up_n hj]; exact t2 j hj) t3
            obtain ⟨⟨g1, g2, g3⟩, g4⟩ := t1
            have hcw := (pv_cl_ok hok c k (by omega)).1
            refine ⟨⟨?_, ?_, ?_⟩, fun p hp => (g4 p hp).cg (hcw.2.2.2 p hp).2.1 (fun j a b => ?_)⟩
            · rw [px_up_at, if_neg (by omega)]; exact g1
            · rw [px_up_at, if_neg (by omega)]; exact g2
            · rw [px_up_at, if_pos ⟨rfl, rfl⟩, g3, nI_1]; rfl
            · have hp5 : p < V.1 := by
                have : p < (pv_cl V c k).1 := hp
                rw [(pv_cl_n V c k).1] at this
                exact this
              rw [px_up_at, if_neg (by omega)]
      exact inner n 0 (by omega) σ2 hV2 (fun j hj => (a1 j hj).trans (h1 j hj)) a2
  have ways : ∀ m k, k + m = n → ∀ σ' : px_St, σ'.1 = σ.1 → σ'.2 0 15 = lN 0 → σ'.2 0 16 = lN 0 → σ'.2 0 17 = lN (10 ^ k) → G 18 [some (.ref 0), some (.int (nI v)), some (.int v2), some (.int (nI s)), some (.int (nI n)), some (.int (nI k)), none, none, none, none] [] σ' := by
    intro m
    induction m with
    | zero =>
      intro k hk σ' h1 h2 h3 h4
      have e : k = n := by omega
      subst e
      exact sgX6_findOdds_18 hG _ _ _ _ _ σ' ⟨fun _ => outer (2 ^ k) 0 (by omega) σ' (fun j _ => by rw [h1]) (fun p _ => h2) h3 h4, fun z => absurd (Int32.le_refl _) z⟩
    | succ m ih =>
      intro k hk σ' h1 h2 h3 h4
      refine sgX6_findOdds_18 hG _ _ _ _ _ σ' ⟨fun z => absurd z (nI_ge (by omega) (by omega)), fun _ => ?_⟩
      rw [h4, show (10 : Int64) = lN 10 from rfl, lN_mul, ← Nat.pow_succ, nI_1]
      refine ih (k + 1) (by omega) _ h1 ?_ ?_ ?_
      · rw [px_upl_at, if_neg (by omega)]; exact h2
      · rw [px_upl_at, if_neg (by omega)]; exact h3
      · rw [px_upl_at, if_pos ⟨rfl, rfl⟩]
  refine ways n 0 (by omega) _ rfl ?_ ?_ ?_
  · rw [px_upl_at, if_neg (by omega), px_upl_at, if_neg (by omega), px_upl_at, if_pos ⟨rfl, rfl⟩]; rfl
  · rw [px_upl_at, if_neg (by omega), px_upl_at, if_pos ⟨rfl, rfl⟩]; rfl
  · rw [px_upl_at, if_pos ⟨rfl, rfl⟩]; rfl
theorem mX6_findOdds (g : gtX6_findOdds) : px_Met dM yX6_findOdds (Cond.code yX6_findOdds cX6_findOdds 10 none :: wdM) rmX6_findOdds px_vV (prX6_findOdds g) (poX6_findOdds g) :=
  px_met (Z := (cX6_findOdds, 10, RX6, Cond.code yX6_findOdds cX6_findOdds 10 none :: wdM, none, rmX6_findOdds, dM)) opX6_findOdds (by decide) rfl rfl okX6_findOdds (fun As σ h => by obtain ⟨v1, v2, v3, v4, rfl, h⟩ := h; exact Nat.le_of_ble_eq_true rfl) (fun As σ h G hG => by obtain ⟨v1, v2, v3, v4, rfl, h⟩ := h; exact hhX6_findOdds g v1 v2 v3 v4 σ h G hG)
