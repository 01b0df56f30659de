theorem lsum {f : Int32} {i c : Nat} (hi : i ≤ 20) (hc : c ≤ 1) : (f.toInt64 + ((2 : Int32) * nI i).toInt64 + (nI c).toInt64).toInt = f.toInt + 2 * i + c := by
  have e2 : (2 : Int32) * nI i = nI (2 * i) := by rw [show (2 : Int32) = nI 2 from rfl, pk_mul]
  have h1 := Int32.le_toInt f
  have h2 := Int32.toInt_lt f
  rw [e2, Int64.toInt_add, Int64.toInt_add, Int32.toInt_toInt64, Int32.toInt_toInt64, Int32.toInt_toInt64, nI_toInt (by omega), nI_toInt (by omega)]
  rw [Int.bmod_eq_of_le (n := f.toInt + ((2 * i : Nat) : Int)) (by omega) (by omega), Int.bmod_eq_of_le (by omega) (by omega)]
  omega
theorem lpos {f : Int32} {i c s : Nat} (hi : i ≤ 20) (hc : c ≤ 1) (hs : s ≤ 40) : (lg_cmp (f.toInt64 + ((2 : Int32) * nI i).toInt64 + (nI c).toInt64) 0 < 0 ↔ f.toInt + 2 * i + c < 0) ∧ (lg_cmp (f.toInt64 + ((2 : Int32) * nI i).toInt64 + (nI c).toInt64) (nI s).toInt64 < 0 ↔ f.toInt + 2 * i + c < s) := by
  rw [lgc_lt0, lgc_lt0, Int64.le_iff_toInt_le, Int64.le_iff_toInt_le, lsum hi hc, Int32.toInt_toInt64, nI_toInt (by omega)]
  have : (0 : Int64).toInt = 0 := by decide
  rw [this]
  omega
theorem wp_next {l f : Int32} {w : pv_H} {i : Nat} (hw : w.2.1 ≤ 40) (hl : nI w.1 = l) (hi : i ≤ x_wp l f (some w)) : i < x_wp l f (some w) ↔ (0 ≤ f.toInt + 2 * i ∧ f.toInt + 2 * i + 1 < w.2.1) := by
  unfold x_wp at hi ⊢
  simp only at hi ⊢
  by_cases hc : nI w.1 = l ∧ ¬ f < 0 ∧ ¬ nI w.2.1 ≤ f
  · rw [if_pos hc] at hi ⊢
    obtain ⟨j, hj, e⟩ := nI_of hc.2.1
    subst e
    rw [nI_clamp hj] at hi ⊢
    rw [nI_toInt hj]
    have hjl : j < w.2.1 := by
      rcases Nat.lt_or_ge j w.2.1 with q | q
      · exact q
      · exact absurd (nI_le q hj) hc.2.2
    omega
  · rw [if_neg hc] at hi ⊢
    have hi0 : i = 0 := by omega
    subst hi0
    refine ⟨fun q => absurd q (Nat.lt_irrefl 0), fun q => ?_⟩
    exfalso
    refine hc ⟨hl, fun q2 => ?_, fun q2 => ?_⟩
    · have := Int32.lt_iff_toInt_lt.mp q2
      have z : (0 : Int32).toInt = 0 := by decide
      rw [z] at this
      omega
    · have := Int32.le_iff_toInt_le.mp q2
      rw [nI_toInt (by omega)] at this
      omega
theorem mo_R {σ : px_St} {X : pv_X} {R : Nat} {x : Int32} (h : mo_is σ X) (hx : x = nI R) : mo_is (px_up σ 0 23 x) (xR X R) := by
  obtain ⟨g1, g2, g3, g4, g5, g6, g7⟩ := h
  refine ⟨by rw [px_up_n (by omega)]; exact g1, by rw [px_up_n (by omega)]; exact g2, g3.kept (by rw [px_up_at, if_neg (by omega)]) (px_up_n (by omega)), g4.kept (px_up_n (by omega)) (fun j _ => by rw [px_up_n (by omega)]), by rw [px_up_at, if_neg (by omega)]; exact g5, by rw [px_up_at, if_pos ⟨rfl, rfl⟩]; exact hx, g7.kept (px_up_n (by omega)) (px_up_n (by omega)) (px_up_n (by omega))⟩
abbrev gtX6_read : Type := pv_X
def qrX6_read (X : pv_X) (_ _ _ _ : Int32) (σ : px_St) : Prop := mo_is σ X ∧ xo X
def qoX6_read (X : pv_X) (k l f n : Int32) (_ : px_St) (r : Int32) (σ' : px_St) : Prop := r = (x_read X k l f n).1 ∧ mo_is σ' (x_read X k l f n).2
def prX6_read (g : gtX6_read) : List Value → px_St → Prop := fun As σ => ∃ v1 : Int32, ∃ v2 : Int32, ∃ v3 : Int32, ∃ v4 : Int32, As = [.ref 0, .int v1, .int v2, .int v3, .int v4] ∧ qrX6_read g v1 v2 v3 v4 σ
def poX6_read (g : gtX6_read) : List Value → px_St → Int32 → px_St → Prop
  | [.ref _, .int v1, .int v2, .int v3, .int v4], σ, r, σ' => qoX6_read g v1 v2 v3 v4 σ r σ'
  | _, _, _, _ => False
theorem dX6_read_0 : decode cX6_read 0 = .ok (.iload_n 1, 1) := by decide +kernel
theorem dX6_read_1 : decode cX6_read 1 = .ok (.iload_n 2, 1) := by decide +kernel
theorem dX6_read_2 : decode cX6_read 2 = .ok (.invokestatic 273, 3) := by decide +kernel
theorem dX6_read_5 : decode cX6_read 5 = .ok (.ifCond .eq 16, 3) := by decide +kernel
theorem dX6_read_8 : decode cX6_read 8 = .ok (.iload 4, 2) := by decide +kernel
theorem dX6_read_10 : decode cX6_read 10 = .ok (.i2l, 1) := by decide +kernel
theorem dX6_read_11 : decode cX6_read 11 = .ok (.lconst 0, 1) := by decide +kernel
theorem dX6_read_12 : decode cX6_read 12 = .ok (.ldc2_w 264, 3) := by decide +kernel
theorem dX6_read_15 : decode cX6_read 15 = .ok (.invokestatic 56, 3) := by decide +kernel
theorem dX6_read_18 : decode cX6_read 18 = .ok (.ifCond .ne 5, 3) := by decide +kernel
theorem dX6_read_21 : decode cX6_read 21 = .ok (.iconst (-1), 1) := by decide +kernel
theorem dX6_read_22 : decode cX6_read 22 = .ok (.ireturn, 1) := by decide +kernel
theorem dX6_read_23 : decode cX6_read 23 = .ok (.iconst 0, 1) := by decide +kernel
theorem dX6_read_24 : decode cX6_read 24 = .ok (.istore 5, 2) := by decide +kernel
theorem dX6_read_26 : decode cX6_read 26 = .ok (.iload 5, 2) := by decide +kernel
theorem dX6_read_28 : decode cX6_read 28 = .ok (.bipush 61, 2) := by decide +kernel
theorem dX6_read_30 : decode cX6_read 30 = .ok (.if_icmp .ge 23, 3) := by decide +kernel
theorem dX6_read_33 : decode cX6_read 33 = .ok (.aload_n 0, 1) := by decide +kernel
theorem dX6_read_34 : decode cX6_read 34 = .ok (.getfield 41, 3) := by decide +kernel
theorem dX6_read_37 : decode cX6_read 37 = .ok (.iload 5, 2) := by decide +kernel
theorem dX6_read_39 : decode cX6_read 39 = .ok (.aload_n 0, 1) := by decide +kernel
theorem dX6_read_40 : decode cX6_read 40 = .ok (.getfield 7, 3) := by decide +kernel
theorem dX6_read_43 : decode cX6_read 43 = .ok (.iload 5, 2) := by decide +kernel
theorem dX6_read_45 : decode cX6_read 45 = .ok (.iaload, 1) := by decide +kernel
theorem dX6_read_46 : decode cX6_read 46 = .ok (.iastore, 1) := by decide +kernel
theorem dX6_read_47 : decode cX6_read 47 = .ok (.iinc 5 1, 3) := by decide +kernel
theorem dX6_read_50 : decode cX6_read 50 = .ok (.goto (-24), 3) := by decide +kernel
theorem dX6_read_53 : decode cX6_read 53 = .ok (.iconst 0, 1) := by decide +kernel
theorem dX6_read_54 : decode cX6_read 54 = .ok (.istore 5, 2) := by decide +kernel
theorem dX6_read_56 : decode cX6_read 56 = .ok (.iconst 0, 1) := by decide +kernel
theorem dX6_read_57 : decode cX6_read 57 = .ok (.istore 6, 2) := by decide +kernel
theorem dX6_read_59 : decode cX6_read 59 = .ok (.iconst 0, 1) := by decide +kernel
theorem dX6_read_60 : decode cX6_read 60 = .ok (.istore 7, 2) := by decide +kernel
theorem dX6_read_62 : decode cX6_read 62 = .ok (.iload 7, 2) := by decide +kernel
theorem dX6_read_64 : decode cX6_read 64 = .ok (.iload 4, 2) := by decide +kernel
theorem dX6_read_66 : decode cX6_read 66 = .ok (.if_icmp .ge 184, 3) := by decide +kernel
theorem dX6_read_69 : decode cX6_read 69 = .ok (.iload 5, 2) := by decide +kernel
theorem dX6_read_71 : decode cX6_read 71 = .ok (.ifCond .ne 179, 3) := by decide +kernel
theorem dX6_read_74 : decode cX6_read 74 = .ok (.iconst 0, 1) := by decide +kernel
theorem dX6_read_75 : decode cX6_read 75 = .ok (.istore 8, 2) := by decide +kernel
theorem dX6_read_77 : decode cX6_read 77 = .ok (.iload 8, 2) := by decide +kernel
theorem dX6_read_79 : decode cX6_read 79 = .ok (.iconst 2, 1) := by decide +kernel
theorem dX6_read_80 : decode cX6_read 80 = .ok (.if_icmp .ge 84, 3) := by decide +kernel
theorem dX6_read_83 : decode cX6_read 83 = .ok (.iload 5, 2) := by decide +kernel
theorem dX6_read_85 : decode cX6_read 85 = .ok (.ifCond .ne 79, 3) := by decide +kernel
theorem dX6_read_88 : decode cX6_read 88 = .ok (.iload_n 3, 1) := by decide +kernel
theorem dX6_read_89 : decode cX6_read 89 = .ok (.i2l, 1) := by decide +kernel
theorem dX6_read_90 : decode cX6_read 90 = .ok (.iconst 2, 1) := by decide +kernel
theorem dX6_read_91 : decode cX6_read 91 = .ok (.iload 7, 2) := by decide +kernel
theorem dX6_read_93 : decode cX6_read 93 = .ok (.imul, 1) := by decide +kernel
theorem dX6_read_94 : decode cX6_read 94 = .ok (.i2l, 1) := by decide +kernel
theorem dX6_read_95 : decode cX6_read 95 = .ok (.ladd, 1) := by decide +kernel
theorem dX6_read_96 : decode cX6_read 96 = .ok (.iload 8, 2) := by decide +kernel
theorem dX6_read_98 : decode cX6_read 98 = .ok (.i2l, 1) := by decide +kernel
theorem dX6_read_99 : decode cX6_read 99 = .ok (.ladd, 1) := by decide +kernel
theorem dX6_read_100 : decode cX6_read 100 = .ok (.lstore 9, 2) := by decide +kernel
theorem dX6_read_102 : decode cX6_read 102 = .ok (.aload_n 0, 1) := by decide +kernel
theorem dX6_read_103 : decode cX6_read 103 = .ok (.getfield 32, 3) := by decide +kernel
theorem dX6_read_106 : decode cX6_read 106 = .ok (.iload_n 1, 1) := by decide +kernel
theorem dX6_read_107 : decode cX6_read 107 = .ok (.iaload, 1) := by decide +kernel
theorem dX6_read_108 : decode cX6_read 108 = .ok (.bipush (-4), 2) := by decide +kernel
theorem dX6_read_110 : decode cX6_read 110 = .ok (.if_icmp .ne 7, 3) := by decide +kernel
theorem dX6_read_113 : decode cX6_read 113 = .ok (.iconst 1, 1) := by decide +kernel
theorem dX6_read_114 : decode cX6_read 114 = .ok (.goto 42, 3) := by decide +kernel
theorem dX6_read_117 : decode cX6_read 117 = .ok (.aload_n 0, 1) := by decide +kernel
theorem dX6_read_118 : decode cX6_read 118 = .ok (.getfield 32, 3) := by decide +kernel
theorem dX6_read_121 : decode cX6_read 121 = .ok (.iload_n 1, 1) := by decide +kernel
theorem dX6_read_122 : decode cX6_read 122 = .ok (.iaload, 1) := by decide +kernel
theorem dX6_read_123 : decode cX6_read 123 = .ok (.iload_n 2, 1) := by decide +kernel
theorem dX6_read_124 : decode cX6_read 124 = .ok (.if_icmp .eq 7, 3) := by decide +kernel
theorem dX6_read_127 : decode cX6_read 127 = .ok (.iconst 3, 1) := by decide +kernel
theorem dX6_read_128 : decode cX6_read 128 = .ok (.goto 28, 3) := by decide +kernel
theorem dX6_read_131 : decode cX6_read 131 = .ok (.lload 9, 2) := by decide +kernel
theorem dX6_read_133 : decode cX6_read 133 = .ok (.lconst 0, 1) := by decide +kernel
theorem dX6_read_134 : decode cX6_read 134 = .ok (.lcmp, 1) := by decide +kernel
theorem dX6_read_135 : decode cX6_read 135 = .ok (.ifCond .lt 16, 3) := by decide +kernel
theorem dX6_read_138 : decode cX6_read 138 = .ok (.lload 9, 2) := by decide +kernel
theorem dX6_read_140 : decode cX6_read 140 = .ok (.aload_n 0, 1) := by decide +kernel
theorem dX6_read_141 : decode cX6_read 141 = .ok (.getfield 35, 3) := by decide +kernel
theorem dX6_read_144 : decode cX6_read 144 = .ok (.iload_n 1, 1) := by decide +kernel
theorem dX6_read_145 : decode cX6_read 145 = .ok (.iaload, 1) := by decide +kernel
theorem dX6_read_146 : decode cX6_read 146 = .ok (.i2l, 1) := by decide +kernel
theorem dX6_read_147 : decode cX6_read 147 = .ok (.lcmp, 1) := by decide +kernel
theorem dX6_read_148 : decode cX6_read 148 = .ok (.ifCond .lt 7, 3) := by decide +kernel
theorem dX6_read_151 : decode cX6_read 151 = .ok (.iconst 2, 1) := by decide +kernel
theorem dX6_read_152 : decode cX6_read 152 = .ok (.goto 4, 3) := by decide +kernel
theorem dX6_read_155 : decode cX6_read 155 = .ok (.iconst 0, 1) := by decide +kernel
theorem dX6_read_156 : decode cX6_read 156 = .ok (.istore 5, 2) := by decide +kernel
theorem dX6_read_158 : decode cX6_read 158 = .ok (.iinc 8 1, 3) := by decide +kernel
theorem dX6_read_161 : decode cX6_read 161 = .ok (.goto (-84), 3) := by decide +kernel
theorem dX6_read_164 : decode cX6_read 164 = .ok (.iload 5, 2) := by decide +kernel
theorem dX6_read_166 : decode cX6_read 166 = .ok (.ifCond .ne 78, 3) := by decide +kernel
theorem dX6_read_169 : decode cX6_read 169 = .ok (.bipush 40, 2) := by decide +kernel
theorem dX6_read_171 : decode cX6_read 171 = .ok (.iload_n 1, 1) := by decide +kernel
theorem dX6_read_172 : decode cX6_read 172 = .ok (.imul, 1) := by decide +kernel
theorem dX6_read_173 : decode cX6_read 173 = .ok (.iload_n 3, 1) := by decide +kernel
theorem dX6_read_174 : decode cX6_read 174 = .ok (.iadd, 1) := by decide +kernel
theorem dX6_read_175 : decode cX6_read 175 = .ok (.iconst 2, 1) := by decide +kernel
theorem dX6_read_176 : decode cX6_read 176 = .ok (.iload 7, 2) := by decide +kernel
theorem dX6_read_178 : decode cX6_read 178 = .ok (.imul, 1) := by decide +kernel
theorem dX6_read_179 : decode cX6_read 179 = .ok (.iadd, 1) := by decide +kernel
theorem dX6_read_180 : decode cX6_read 180 = .ok (.istore 8, 2) := by decide +kernel
theorem dX6_read_182 : decode cX6_read 182 = .ok (.aload_n 0, 1) := by decide +kernel
theorem dX6_read_183 : decode cX6_read 183 = .ok (.aload_n 0, 1) := by decide +kernel
theorem dX6_read_184 : decode cX6_read 184 = .ok (.getfield 38, 3) := by decide +kernel
theorem dX6_read_187 : decode cX6_read 187 = .ok (.iload 8, 2) := by decide +kernel
theorem dX6_read_189 : decode cX6_read 189 = .ok (.iaload, 1) := by decide +kernel
theorem dX6_read_190 : decode cX6_read 190 = .ok (.aload_n 0, 1) := by decide +kernel
theorem dX6_read_191 : decode cX6_read 191 = .ok (.getfield 38, 3) := by decide +kernel
theorem dX6_read_194 : decode cX6_read 194 = .ok (.iload 8, 2) := by decide +kernel
theorem dX6_read_196 : decode cX6_read 196 = .ok (.iconst 1, 1) := by decide +kernel
theorem dX6_read_197 : decode cX6_read 197 = .ok (.iadd, 1) := by decide +kernel
theorem dX6_read_198 : decode cX6_read 198 = .ok (.iaload, 1) := by decide +kernel
theorem dX6_read_199 : decode cX6_read 199 = .ok (.invokevirtual 276, 3) := by decide +kernel
theorem dX6_read_202 : decode cX6_read 202 = .ok (.ifCond .ge 39, 3) := by decide +kernel
theorem dX6_read_205 : decode cX6_read 205 = .ok (.iconst 0, 1) := by decide +kernel
theorem dX6_read_206 : decode cX6_read 206 = .ok (.istore 9, 2) := by decide +kernel
theorem dX6_read_208 : decode cX6_read 208 = .ok (.iload 9, 2) := by decide +kernel
theorem dX6_read_210 : decode cX6_read 210 = .ok (.bipush 61, 2) := by decide +kernel
theorem dX6_read_212 : decode cX6_read 212 = .ok (.if_icmp .ge 23, 3) := by decide +kernel
theorem dX6_read_215 : decode cX6_read 215 = .ok (.aload_n 0, 1) := by decide +kernel
theorem dX6_read_216 : decode cX6_read 216 = .ok (.getfield 7, 3) := by decide +kernel
theorem dX6_read_219 : decode cX6_read 219 = .ok (.iload 9, 2) := by decide +kernel
theorem dX6_read_221 : decode cX6_read 221 = .ok (.aload_n 0, 1) := by decide +kernel
theorem dX6_read_222 : decode cX6_read 222 = .ok (.getfield 41, 3) := by decide +kernel
theorem dX6_read_225 : decode cX6_read 225 = .ok (.iload 9, 2) := by decide +kernel
theorem dX6_read_227 : decode cX6_read 227 = .ok (.iaload, 1) := by decide +kernel
theorem dX6_read_228 : decode cX6_read 228 = .ok (.iastore, 1) := by decide +kernel
theorem dX6_read_229 : decode cX6_read 229 = .ok (.iinc 9 1, 3) := by decide +kernel
theorem dX6_read_232 : decode cX6_read 232 = .ok (.goto (-24), 3) := by decide +kernel
theorem dX6_read_235 : decode cX6_read 235 = .ok (.bipush (-20), 2) := by decide +kernel
theorem dX6_read_237 : decode cX6_read 237 = .ok (.iload 7, 2) := by decide +kernel
theorem dX6_read_239 : decode cX6_read 239 = .ok (.isub, 1) := by decide +kernel
theorem dX6_read_240 : decode cX6_read 240 = .ok (.ireturn, 1) := by decide +kernel
theorem dX6_read_241 : decode cX6_read 241 = .ok (.iinc 6 1, 3) := by decide +kernel
theorem dX6_read_244 : decode cX6_read 244 = .ok (.iinc 7 1, 3) := by decide +kernel
theorem dX6_read_247 : decode cX6_read 247 = .ok (.goto (-185), 3) := by decide +kernel
theorem dX6_read_250 : decode cX6_read 250 = .ok (.aload_n 0, 1) := by decide +kernel
theorem dX6_read_251 : decode cX6_read 251 = .ok (.iload 5, 2) := by decide +kernel
theorem dX6_read_253 : decode cX6_read 253 = .ok (.putfield 279, 3) := by decide +kernel
theorem dX6_read_256 : decode cX6_read 256 = .ok (.iload 6, 2) := by decide +kernel
theorem dX6_read_258 : decode cX6_read 258 = .ok (.ireturn, 1) := by decide +kernel
abbrev rmX6_read : Room := { frames := 4, cells := 0, slots := 0, locals := 92 }
def opX6_read (po : Int32 → px_St → Prop) : List (Nat × px_Op) := [
  (0, px_il 1 1),
  (1, px_il 2 2),
  (2, px_callS 5 2 px_vI prX6_isSheet poX6_isSheet),
  (5, px_if 8 21 (fun x => x = 0)),
  (8, px_il 10 4),
  (10, px_i2l 11),
  (11, px_push 12 (.long 0)),
  (12, px_push 15 (.long 20)),
  (15, px_callS 18 3 px_vI prX6_in poX6_in),
  (18, px_if 21 23 (fun x => ¬ x = 0)),
  (21, px_push 22 (.int (-1))),
  (22, px_iret (.int) po),
  (23, px_push 24 (.int 0)),
  (24, px_is 26 5),
  (26, px_il 28 5),
  (28, px_push 30 (.int 61)),
  (30, px_ic 33 53 (fun x y => y ≤ x)),
  (33, px_al 34 0),
  (34, px_get dM 37 6 24),
  (37, px_il 39 5),
  (39, px_al 40 0),
  (40, px_get dM 43 6 0),
  (43, px_il 45 5),
  (45, px_ald dM 46 0),
  (46, px_ast dM 47 0 (fun x => x)),
  (47, px_inc 50 5 1),
  (50, px_go 26),
  (53, px_push 54 (.int 0)),
  (54, px_is 56 5),
  (56, px_push 57 (.int 0)),
  (57, px_is 59 6),
  (59, px_push 60 (.int 0)),
  (60, px_is 62 7),
  (62, px_il 64 7),
  (64, px_il 66 4),
  (66, px_ic 69 250 (fun x y => y ≤ x)),
  (69, px_il 71 5),
  (71, px_if 74 250 (fun x => ¬ x = 0)),
  (74, px_push 75 (.int 0)),
  (75, px_is 77 8),
  (77, px_il 79 8),
  (79, px_push 80 (.int 2)),
  (80, px_ic 83 164 (fun x y => y ≤ x)),
  (83, px_il 85 5),
  (85, px_if 88 164 (fun x => ¬ x = 0)),
  (88, px_il 89 3),
  (89, px_i2l 90),
  (90, px_push 91 (.int 2)),
  (91, px_il 93 7),
  (93, px_bin 94 (fun x y => x * y)),
  (94, px_i2l 95),
  (95, px_binL 96 (fun x y => x + y)),
  (96, px_il 98 8),
  (98, px_i2l 99),
  (99, px_binL 100 (fun x y => x + y)),
  (100, px_ls 102 9),
  (102, px_al 103 0),
  (103, px_get dM 106 6 20),
  (106, px_il 107 1),
  (107, px_ald dM 108 0),
  (108, px_push 110 (.int (-4))),
  (110, px_ic 113 117 (fun x y => ¬ x = y)),
  (113, px_push 114 (.int 1)),
  (114, px_go 156),
  (117, px_al 118 0),
  (118, px_get dM 121 6 20),
  (121, px_il 122 1),
  (122, px_ald dM 123 0),
  (123, px_il 124 2),
  (124, px_ic 127 131 (fun x y => x = y)),
  (127, px_push 128 (.int 3)),
  (128, px_go 156),
  (131, px_ll 133 9),
  (133, px_push 134 (.long 0)),
  (134, px_lcmp 135),
  (135, px_if 138 151 (fun x => x < 0)),
  (138, px_ll 140 9),
  (140, px_al 141 0),
  (141, px_get dM 144 6 21),
  (144, px_il 145 1),
  (145, px_ald dM 146 0),
  (146, px_i2l 147),
  (147, px_lcmp 148),
  (148, px_if 151 155 (fun x => x < 0)),
  (151, px_push 152 (.int 2)),
  (152, px_go 156),
  (155, px_push 156 (.int 0)),
  (156, px_is 158 5),
  (158, px_inc 161 8 1),
  (161, px_go 77),
  (164, px_il 166 5),
  (166, px_if 169 244 (fun x => ¬ x = 0)),
  (169, px_push 171 (.int 40)),
  (171, px_il 172 1),
  (172, px_bin 173 (fun x y => x * y)),
  (173, px_il 174 3),
  (174, px_bin 175 (fun x y => x + y)),
  (175, px_push 176 (.int 2)),
  (176, px_il 178 7),
  (178, px_bin 179 (fun x y => x * y)),
  (179, px_bin 180 (fun x y => x + y)),
  (180, px_is 182 8),
  (182, px_al 183 0),
  (183, px_al 184 0),
  (184, px_get dM 187 6 22),
  (187, px_il 189 8),
  (189, px_ald dM 190 0),
  (190, px_al 191 0),
  (191, px_get dM 194 6 22),
  (194, px_il 196 8),
  (196, px_push 197 (.int 1)),
  (197, px_bin 198 (fun x y => x + y)),
  (198, px_ald dM 199 0),
  (199, px_callV dM 202 6 2 px_vI prX6_teach poX6_teach),
  (202, px_if 205 241 (fun x => 0 ≤ x)),
  (205, px_push 206 (.int 0)),
  (206, px_is 208 9),
  (208, px_il 210 9),
  (210, px_push 212 (.int 61)),
  (212, px_ic 215 235 (fun x y => y ≤ x)),
  (215, px_al 216 0),
  (216, px_get dM 219 6 0),
  (219, px_il 221 9),
  (221, px_al 222 0),
  (222, px_get dM 225 6 24),
  (225, px_il 227 9),
  (227, px_ald dM 228 0),
  (228, px_ast dM 229 0 (fun x => x)),
  (229, px_inc 232 9 1),
  (232, px_go 208),
  (235, px_push 237 (.int (-20))),
  (237, px_il 239 7),
  (239, px_bin 240 (fun x y => x - y)),
  (240, px_iret (.int) po),
  (241, px_inc 244 6 1),
  (244, px_inc 247 7 1),
  (247, px_go 62),
  (250, px_al 251 0),
  (251, px_il 253 5),
  (253, px_put dM 256 6 23 .int),
  (256, px_il 258 6),
  (258, px_iret (.int) po)]
set_option maxRecDepth 100000 in
set_option maxHeartbeats 4000000 in
theorem okX6_read : ∀ (po : Int32 → px_St → Prop) (i pc : Nat) (op : px_Op), (opX6_read po)[i]? = some (pc, op) → px_Snd (cX6_read, 11, RX6, Cond.code yX6_read cX6_read 11 (some .int) :: wdM, (some .int), rmX6_read, dM) px_vI po pc op := by
  intro po
  unfold opX6_read
  refine px_ok_cons (ps_iload_n dX6_read_0 rfl) ?_
  refine px_ok_cons (ps_iload_n dX6_read_1 rfl) ?_
  refine px_ok_cons (ps_callS mX6_isSheet (fun _ _ => rfl) (fun _ _ ht => px_cwS wgM (wdM_6_in _ (List.mem_of_getElem? (i := 21) rfl)) (wdM_6_in _ (List.mem_of_getElem? (i := 22) rfl)) (wdM_0_in _ (List.mem_of_getElem? (i := 22) rfl)) (wdM_6_in _ (List.mem_of_getElem? (i := 19) rfl)) (by decide +kernel) rfl rfl (by decide) ht) dX6_read_2) ?_
  refine px_ok_cons (ps_if_eq dX6_read_5 (by decide)) ?_
  refine px_ok_cons (ps_iload dX6_read_8) ?_
  refine px_ok_cons (ps_i2l dX6_read_10) ?_
  refine px_ok_cons (ps_lconst dX6_read_11 (by decide)) ?_
  refine px_ok_cons (ps_ldc2 (List.mem_cons_of_mem _ (wdM_6_in _ (List.mem_of_getElem? (i := 2) rfl))) dX6_read_12) ?_
  refine px_ok_cons (ps_callS mX6_in (fun _ _ => rfl) (fun _ _ ht => px_cwS wgM (wdM_0_in _ (List.mem_of_getElem? (i := 32) rfl)) (wdM_0_in _ (List.mem_of_getElem? (i := 33) rfl)) (wdM_0_in _ (List.mem_of_getElem? (i := 22) rfl)) (wdM_0_in _ (List.mem_of_getElem? (i := 27) rfl)) (by decide +kernel) rfl rfl (by decide) ht) dX6_read_15) ?_
  refine px_ok_cons (ps_if_ne dX6_read_18 (by decide)) ?_
  refine px_ok_cons (ps_iconst dX6_read_21 (by decide)) ?_
  refine px_ok_cons (ps_ireturn rfl dX6_read_22) ?_
  refine px_ok_cons (ps_iconst dX6_read_23 (by decide)) ?_
  refine px_ok_cons (ps_istore dX6_read_24 (by decide)) ?_
  refine px_ok_cons (ps_iload dX6_read_26) ?_
  refine px_ok_cons (ps_bipush dX6_read_28 (by decide)) ?_
  refine px_ok_cons (ps_icmp_ge dX6_read_30 (by decide)) ?_
  refine px_ok_cons (ps_aload_n dX6_read_33 rfl) ?_
  refine px_ok_cons (fgX6_41 dX6_read_34) ?_
  refine px_ok_cons (ps_iload dX6_read_37) ?_
  refine px_ok_cons (ps_aload_n dX6_read_39 rfl) ?_
  refine px_ok_cons (fgX6_7 dX6_read_40) ?_
  refine px_ok_cons (ps_iload dX6_read_43) ?_
  refine px_ok_cons (ps_iaload dX6_read_45) ?_
  refine px_ok_cons (ps_iastore dX6_read_46) ?_
  refine px_ok_cons (ps_iinc dX6_read_47 (by decide) (by decide)) ?_
  refine px_ok_cons (ps_goto dX6_read_50 (by decide)) ?_
  refine px_ok_cons (ps_iconst dX6_read_53 (by decide)) ?_
  refine px_ok_cons (ps_istore dX6_read_54 (by decide)) ?_
  refine px_ok_cons (ps_iconst dX6_read_56 (by decide)) ?_
  refine px_ok_cons (ps_istore dX6_read_57 (by decide)) ?_
  refine px_ok_cons (ps_iconst dX6_read_59 (by decide)) ?_
  refine px_ok_cons (ps_istore dX6_read_60 (by decide)) ?_
  refine px_ok_cons (ps_iload dX6_read_62) ?_
  refine px_ok_cons (ps_iload dX6_read_64) ?_
  refine px_ok_cons (ps_icmp_ge dX6_read_66 (by decide)) ?_
  refine px_ok_cons (ps_iload dX6_read_69) ?_
  refine px_ok_cons (ps_if_ne dX6_read_71 (by decide)) ?_
  refine px_ok_cons (ps_iconst dX6_read_74 (by decide)) ?_
  refine px_ok_cons (ps_istore dX6_read_75 (by decide)) ?_
  refine px_ok_cons (ps_iload dX6_read_77) ?_
  refine px_ok_cons (ps_iconst dX6_read_79 (by decide)) ?_
  refine px_ok_cons (ps_icmp_ge dX6_read_80 (by decide)) ?_
  refine px_ok_cons (ps_iload dX6_read_83) ?_
  refine px_ok_cons (ps_if_ne dX6_read_85 (by decide)) ?_
  refine px_ok_cons (ps_iload_n dX6_read_88 rfl) ?_
  refine px_ok_cons (ps_i2l dX6_read_89) ?_
  refine px_ok_cons (ps_iconst dX6_read_90 (by decide)) ?_
  refine px_ok_cons (ps_iload dX6_read_91) ?_
  refine px_ok_cons (ps_imul dX6_read_93) ?_
  refine px_ok_cons (ps_i2l dX6_read_94) ?_
  refine px_ok_cons (ps_ladd dX6_read_95) ?_
  refine px_ok_cons (ps_iload dX6_read_96) ?_
  refine px_ok_cons (ps_i2l dX6_read_98) ?_
  refine px_ok_cons (ps_ladd dX6_read_99) ?_
  refine px_ok_cons (ps_lstore dX6_read_100 (by decide)) ?_
  refine px_ok_cons (ps_aload_n dX6_read_102 rfl) ?_
  refine px_ok_cons (fgX6_32 dX6_read_103) ?_
  refine px_ok_cons (ps_iload_n dX6_read_106 rfl) ?_
  refine px_ok_cons (ps_iaload dX6_read_107) ?_
  refine px_ok_cons (ps_bipush dX6_read_108 (by decide)) ?_
  refine px_ok_cons (ps_icmp_ne dX6_read_110 (by decide)) ?_
  refine px_ok_cons (ps_iconst dX6_read_113 (by decide)) ?_
  refine px_ok_cons (ps_goto dX6_read_114 (by decide)) ?_
  refine px_ok_cons (ps_aload_n dX6_read_117 rfl) ?_
  refine px_ok_cons (fgX6_32 dX6_read_118) ?_
  refine px_ok_cons (ps_iload_n dX6_read_121 rfl) ?_
  refine px_ok_cons (ps_iaload dX6_read_122) ?_
  refine px_ok_cons (ps_iload_n dX6_read_123 rfl) ?_
  refine px_ok_cons (ps_icmp_eq dX6_read_124 (by decide)) ?_
  refine px_ok_cons (ps_iconst dX6_read_127 (by decide)) ?_
  refine px_ok_cons (ps_goto dX6_read_128 (by decide)) ?_
  refine px_ok_cons (ps_lload dX6_read_131) ?_
  refine px_ok_cons (ps_lconst dX6_read_133 (by decide)) ?_
  refine px_ok_cons (ps_lcmp dX6_read_134) ?_
  refine px_ok_cons (ps_if_lt dX6_read_135 (by decide)) ?_
  refine px_ok_cons (ps_lload dX6_read_138) ?_
  refine px_ok_cons (ps_aload_n dX6_read_140 rfl) ?_
  refine px_ok_cons (fgX6_35 dX6_read_141) ?_
  refine px_ok_cons (ps_iload_n dX6_read_144 rfl) ?_
  refine px_ok_cons (ps_iaload dX6_read_145) ?_
  refine px_ok_cons (ps_i2l dX6_read_146) ?_
  refine px_ok_cons (ps_lcmp dX6_read_147) ?_
  refine px_ok_cons (ps_if_lt dX6_read_148 (by decide)) ?_
  refine px_ok_cons (ps_iconst dX6_read_151 (by decide)) ?_
  refine px_ok_cons (ps_goto dX6_read_152 (by decide)) ?_
  refine px_ok_cons (ps_iconst dX6_read_155 (by decide)) ?_
  refine px_ok_cons (ps_istore dX6_read_156 (by decide)) ?_
  refine px_ok_cons (ps_iinc dX6_read_158 (by decide) (by decide)) ?_
  refine px_ok_cons (ps_goto dX6_read_161 (by decide)) ?_
  refine px_ok_cons (ps_iload dX6_read_164) ?_
  refine px_ok_cons (ps_if_ne dX6_read_166 (by decide)) ?_
  refine px_ok_cons (ps_bipush dX6_read_169 (by decide)) ?_
  refine px_ok_cons (ps_iload_n dX6_read_171 rfl) ?_
  refine px_ok_cons (ps_imul dX6_read_172) ?_
  refine px_ok_cons (ps_iload_n dX6_read_173 rfl) ?_
  refine px_ok_cons (ps_iadd dX6_read_174) ?_
  refine px_ok_cons (ps_iconst dX6_read_175 (by decide)) ?_
  refine px_ok_cons (ps_iload dX6_read_176) ?_
  refine px_ok_cons (ps_imul dX6_read_178) ?_
  refine px_ok_cons (ps_iadd dX6_read_179) ?_
  refine px_ok_cons (ps_istore dX6_read_180 (by decide)) ?_
  refine px_ok_cons (ps_aload_n dX6_read_182 rfl) ?_
  refine px_ok_cons (ps_aload_n dX6_read_183 rfl) ?_
  refine px_ok_cons (fgX6_38 dX6_read_184) ?_
  refine px_ok_cons (ps_iload dX6_read_187) ?_
  refine px_ok_cons (ps_iaload dX6_read_189) ?_
  refine px_ok_cons (ps_aload_n dX6_read_190 rfl) ?_
  refine px_ok_cons (fgX6_38 dX6_read_191) ?_
  refine px_ok_cons (ps_iload dX6_read_194) ?_
  refine px_ok_cons (ps_iconst dX6_read_196 (by decide)) ?_
  refine px_ok_cons (ps_iadd dX6_read_197) ?_
  refine px_ok_cons (ps_iaload dX6_read_198) ?_
  refine px_ok_cons (ps_callV mX6_teach (fun _ _ => rfl) (C := RX6) rfl (fun _ _ ht => px_cwV wgM (wdM_6_in _ (List.mem_of_getElem? (i := 25) rfl)) (wdM_6_in _ (List.mem_of_getElem? (i := 26) rfl)) (wdM_6_in _ (List.mem_of_getElem? (i := 27) rfl)) (wdM_0_in _ (List.mem_of_getElem? (i := 22) rfl)) (wdM_4_in _ (List.mem_of_getElem? (i := 7) rfl)) (by decide +kernel) rfl rfl (by decide) ht) dX6_read_199) ?_
  refine px_ok_cons (ps_if_ge dX6_read_202 (by decide)) ?_
  refine px_ok_cons (ps_iconst dX6_read_205 (by decide)) ?_
  refine px_ok_cons (ps_istore dX6_read_206 (by decide)) ?_
  refine px_ok_cons (ps_iload dX6_read_208) ?_
  refine px_ok_cons (ps_bipush dX6_read_210 (by decide)) ?_
  refine px_ok_cons (ps_icmp_ge dX6_read_212 (by decide)) ?_
  refine px_ok_cons (ps_aload_n dX6_read_215 rfl) ?_
  refine px_ok_cons (fgX6_7 dX6_read_216) ?_
  refine px_ok_cons (ps_iload dX6_read_219) ?_
  refine px_ok_cons (ps_aload_n dX6_read_221 rfl) ?_
  refine px_ok_cons (fgX6_41 dX6_read_222) ?_
  refine px_ok_cons (ps_iload dX6_read_225) ?_
  refine px_ok_cons (ps_iaload dX6_read_227) ?_
  refine px_ok_cons (ps_iastore dX6_read_228) ?_
  refine px_ok_cons (ps_iinc dX6_read_229 (by decide) (by decide)) ?_
  refine px_ok_cons (ps_goto dX6_read_232 (by decide)) ?_
  refine px_ok_cons (ps_bipush dX6_read_235 (by decide)) ?_
  refine px_ok_cons (ps_iload dX6_read_237) ?_
  refine px_ok_cons (ps_isub dX6_read_239) ?_
  refine px_ok_cons (ps_ireturn rfl dX6_read_240) ?_
  refine px_ok_cons (ps_iinc dX6_read_241 (by decide) (by decide)) ?_
  refine px_ok_cons (ps_iinc dX6_read_244 (by decide) (by decide)) ?_
  refine px_ok_cons (ps_goto dX6_read_247 (by decide)) ?_
  refine px_ok_cons (ps_aload_n dX6_read_250 rfl) ?_
  refine px_ok_cons (ps_iload dX6_read_251) ?_
  refine px_ok_cons (fpX6_279 dX6_read_253) ?_
  refine px_ok_cons (ps_iload dX6_read_256) ?_
  refine px_ok_cons (ps_ireturn rfl dX6_read_258) ?_
  exact px_ok_nil
set_option maxRecDepth 100000 in
set_option maxHeartbeats 4000000 in
theorem sgX6_read_0 {po : Int32 → px_St → Prop} {G : px_K} (hG : px_cl (opX6_read po) G) (v1 : Int32) (v2 : Int32) (v3 : Int32) (v4 : Int32) (σ : px_St)
    (H : ∃ g3 : gtX6_isSheet, qrX6_isSheet g3 v1 v2 σ ∧ ∀ (r1 : Int32) (σ2 : px_St), qoX6_isSheet g3 v1 v2 σ r1 σ2 → ((r1 = 0) → po (-1 : Int32) σ2) ∧ (¬ (r1 = 0) → ∃ g7 : gtX6_in, qrX6_in g7 v4.toInt64 (0 : Int64) (20 : Int64) σ2 ∧ ∀ (r5 : Int32) (σ6 : px_St), qoX6_in g7 v4.toInt64 (0 : Int64) (20 : Int64) σ2 r5 σ6 → ((¬ r5 = 0) → G 26 [some (.ref 0), some (.int v1), some (.int v2), some (.int v3), some (.int v4), some (.int (0 : Int32)), none, none, none, none, none] [] σ6) ∧ (¬ (¬ r5 = 0) → po (-1 : Int32) σ6))) :
    G 0 (px_ent 11 [.ref 0, .int v1, .int v2, .int v3, .int v4]) [] σ := by
  refine hG.1 0 _ _ rfl _ _ _ ?_
  refine hG.1 1 _ _ rfl _ _ _ ?_
  refine hG.1 2 _ _ rfl _ _ _ ?_
  obtain ⟨g3, H⟩ := H
  refine ⟨Nat.le_of_ble_eq_true rfl, Nat.le_of_ble_eq_true rfl, g3, ⟨_, _, rfl, H.1⟩, fun r1 σ2 hp4 => ?_⟩
  replace H := H.2 r1 σ2 hp4
  refine hG.1 3 _ _ rfl _ _ _ ?_
  refine ⟨fun h10 => ?_, fun h10 => ?_⟩
  · replace H := H.1 h10
    refine hG.1 10 _ _ rfl _ _ _ ?_
    refine hG.1 11 _ _ rfl _ _ _ ?_
    exact ⟨rfl, H⟩
  · replace H := H.2 h10
    refine hG.1 4 _ _ rfl _ _ _ ?_
    refine hG.1 5 _ _ rfl _ _ _ ?_
    refine hG.1 6 _ _ rfl _ _ _ ?_
    refine hG.1 7 _ _ rfl _ _ _ ?_
    refine hG.1 8 _ _ rfl _ _ _ ?_
    obtain ⟨g7, H⟩ := H
    refine ⟨Nat.le_of_ble_eq_true rfl, Nat.le_of_ble_eq_true rfl, g7, ⟨_, _, _, rfl, H.1⟩, fun r5 σ6 hp8 => ?_⟩
    replace H := H.2 r5 σ6 hp8
    refine hG.1 9 _ _ rfl _ _ _ ?_
    refine ⟨fun h9 => ?_, fun h9 => ?_⟩
    · replace H := H.1 h9
      refine hG.1 12 _ _ rfl _ _ _ ?_
      refine hG.1 13 _ _ rfl _ _ _ ?_
      show G 26 [some (.ref 0), some (.int v1), some (.int v2), some (.int v3), some (.int v4), some (.int (0 : Int32)), none, none, none, none, none] [] σ6
      exact H
    · replace H := H.2 h9
      refine hG.1 10 _ _ rfl _ _ _ ?_
      refine hG.1 11 _ _ rfl _ _ _ ?_
      exact ⟨rfl, H⟩
set_option maxRecDepth 100000 in
set_option maxHeartbeats 4000000 in
theorem sgX6_read_26 {po : Int32 → px_St → Prop} {G : px_K} (hG : px_cl (opX6_read po) G) (v1 : Int32) (v2 : Int32) (v3 : Int32) (v4 : Int32) (v5 : Int32) (σ : px_St)
    (H : (((61 : Int32) ≤ v5) → G 62 [some (.ref 0), some (.int v1), some (.int v2), some (.int v3), some (.int v4), some (.int (0 : Int32)), some (.int (0 : Int32)), some (.int (0 : Int32)), none, none, none] [] σ) ∧ (¬ ((61 : Int32) ≤ v5) → vp_in v5 183 ∧ vp_in v5 61 ∧ G 26 [some (.ref 0), some (.int v1), some (.int v2), some (.int v3), some (.int v4), some (.int (v5 + 1)), none, none, none, none, none] [] (px_up σ 11 v5.toNatClampNeg (σ.1 1 v5.toNatClampNeg)))) :
    G 26 [some (.ref 0), some (.int v1), some (.int v2), some (.int v3), some (.int v4), some (.int v5), none, none, none, none, none] [] σ := by
  refine hG.1 14 _ _ rfl _ _ _ ?_
  refine hG.1 15 _ _ rfl _ _ _ ?_
  refine hG.1 16 _ _ rfl _ _ _ ?_
  refine ⟨fun h1 => ?_, fun h1 => ?_⟩
  · replace H := H.1 h1
    refine hG.1 27 _ _ rfl _ _ _ ?_
    refine hG.1 28 _ _ rfl _ _ _ ?_
    show G 56 [some (.ref 0), some (.int v1), some (.int v2), some (.int v3), some (.int v4), some (.int (0 : Int32)), none, none, none, none, none] [] σ
    refine hG.1 29 _ _ rfl _ _ _ ?_
    refine hG.1 30 _ _ rfl _ _ _ ?_
    show G 59 [some (.ref 0), some (.int v1), some (.int v2), some (.int v3), some (.int v4), some (.int (0 : Int32)), some (.int (0 : Int32)), none, none, none, none] [] σ
    refine hG.1 31 _ _ rfl _ _ _ ?_
    refine hG.1 32 _ _ rfl _ _ _ ?_
    show G 62 [some (.ref 0), some (.int v1), some (.int v2), some (.int v3), some (.int v4), some (.int (0 : Int32)), some (.int (0 : Int32)), some (.int (0 : Int32)), none, none, none] [] σ
    exact H
  · replace H := H.2 h1
    refine hG.1 17 _ _ rfl _ _ _ ?_
    refine hG.1 18 _ _ rfl _ _ _ ?_
    refine ⟨⟨rfl, by decide⟩, ?_⟩
    refine hG.1 19 _ _ rfl _ _ _ ?_
    refine hG.1 20 _ _ rfl _ _ _ ?_
    refine hG.1 21 _ _ rfl _ _ _ ?_
    refine ⟨⟨rfl, by decide⟩, ?_⟩
    refine hG.1 22 _ _ rfl _ _ _ ?_
    refine hG.1 23 _ _ rfl _ _ _ ?_
    refine ⟨⟨rfl, by decide⟩, H.1, ?_⟩
    replace H := H.2
    refine hG.1 24 _ _ rfl _ _ _ ?_
    refine ⟨⟨rfl, by decide⟩, H.1, ?_⟩
    replace H := H.2
    refine hG.1 25 _ _ rfl _ _ _ ?_
    show G 50 [some (.ref 0), some (.int v1), some (.int v2), some (.int v3), some (.int v4), some (.int (v5 + 1)), none, none, none, none, none] [] (px_up σ 11 v5.toNatClampNeg (σ.1 1 v5.toNatClampNeg))
    refine hG.1 26 _ _ rfl _ _ _ ?_
    exact H
set_option maxRecDepth 100000 in
set_option maxHeartbeats 4000000 in
theorem sgX6_read_62 {po : Int32 → px_St → Prop} {G : px_K} (hG : px_cl (opX6_read po) G) (v1 : Int32) (v2 : Int32) (v3 : Int32) (v4 : Int32) (v5 : Int32) (v6 : Int32) (v7 : Int32) (σ : px_St)
    (H : ((v4 ≤ v7) → po v6 (px_up σ 0 23 v5)) ∧ (¬ (v4 ≤ v7) → ((¬ v5 = 0) → po v6 (px_up σ 0 23 v5)) ∧ (¬ (¬ v5 = 0) → G 77 [some (.ref 0), some (.int v1), some (.int v2), some (.int v3), some (.int v4), some (.int v5), some (.int v6), some (.int v7), some (.int (0 : Int32)), none, none] [] σ))) :
    G 62 [some (.ref 0), some (.int v1), some (.int v2), some (.int v3), some (.int v4), some (.int v5), some (.int v6), some (.int v7), none, none, none] [] σ := by
  refine hG.1 33 _ _ rfl _ _ _ ?_
  refine hG.1 34 _ _ rfl _ _ _ ?_
  refine hG.1 35 _ _ rfl _ _ _ ?_
  refine ⟨fun h2 => ?_, fun h2 => ?_⟩
  · replace H := H.1 h2
    refine hG.1 137 _ _ rfl _ _ _ ?_
    refine hG.1 138 _ _ rfl _ _ _ ?_
    refine hG.1 139 _ _ rfl _ _ _ ?_
    refine ⟨⟨rfl, by decide⟩, ⟨rfl, rfl⟩, ?_⟩
    refine hG.1 140 _ _ rfl _ _ _ ?_
    refine hG.1 141 _ _ rfl _ _ _ ?_
    exact ⟨rfl, H⟩
  · replace H := H.2 h2
    refine hG.1 36 _ _ rfl _ _ _ ?_
    refine hG.1 37 _ _ rfl _ _ _ ?_
    refine ⟨fun h1 => ?_, fun h1 => ?_⟩
    · replace H := H.1 h1
      refine hG.1 137 _ _ rfl _ _ _ ?_
      refine hG.1 138 _ _ rfl _ _ _ ?_
      refine hG.1 139 _ _ rfl _ _ _ ?_
      refine ⟨⟨rfl, by decide⟩, ⟨rfl, rfl⟩, ?_⟩
      refine hG.1 140 _ _ rfl _ _ _ ?_
      refine hG.1 141 _ _ rfl _ _ _ ?_
      exact ⟨rfl, H⟩
    · replace H := H.2 h1
      refine hG.1 38 _ _ rfl _ _ _ ?_
      refine hG.1 39 _ _ rfl _ _ _ ?_
      show G 77 [some (.ref 0), some (.int v1), some (.int v2), some (.int v3), some (.int v4), some (.int v5), some (.int v6), some (.int v7), some (.int (0 : Int32)), none, none] [] σ
      exact H
set_option maxRecDepth 100000 in
set_option maxHeartbeats 4000000 in
theorem sgX6_read_77 {po : Int32 → px_St → Prop} {G : px_K} (hG : px_cl (opX6_read po) G) (v1 : Int32) (v2 : Int32) (v3 : Int32) (v4 : Int32) (v5 : Int32) (v6 : Int32) (v7 : Int32) (v8 : Int32) (σ : px_St)
    (H : (((2 : Int32) ≤ v8) → ((¬ v5 = 0) → G 62 [some (.ref 0), some (.int v1), some (.int v2), some (.int v3), some (.int v4), some (.int v5), some (.int v6), some (.int (v7 + 1)), none, none, none] [] σ) ∧ (¬ (¬ v5 = 0) → vp_in ((((40 : Int32) * v1) + v3) + ((2 : Int32) * v7)) 160 ∧ vp_in (((((40 : Int32) * v1) + v3) + ((2 : Int32) * v7)) + (1 : Int32)) 160 ∧ ∃ g3 : gtX6_teach, qrX6_teach g3 (σ.1 10 ((((40 : Int32) * v1) + v3) + ((2 : Int32) * v7)).toNatClampNeg) (σ.1 10 (((((40 : Int32) * v1) + v3) + ((2 : Int32) * v7)) + (1 : Int32)).toNatClampNeg) σ ∧ ∀ (r1 : Int32) (σ2 : px_St), qoX6_teach g3 (σ.1 10 ((((40 : Int32) * v1) + v3) + ((2 : Int32) * v7)).toNatClampNeg) (σ.1 10 (((((40 : Int32) * v1) + v3) + ((2 : Int32) * v7)) + (1 : Int32)).toNatClampNeg) σ r1 σ2 → ((0 ≤ r1) → G 62 [some (.ref 0), some (.int v1), some (.int v2), some (.int v3), some (.int v4), some (.int v5), some (.int (v6 + 1)), some (.int (v7 + 1)), none, none, none] [] σ2) ∧ (¬ (0 ≤ r1) → G 208 [some (.ref 0), some (.int v1), some (.int v2), some (.int v3), some (.int v4), some (.int v5), some (.int v6), some (.int v7), some (.int ((((40 : Int32) * v1) + v3) + ((2 : Int32) * v7))), some (.int (0 : Int32)), none] [] σ2))) ∧ (¬ ((2 : Int32) ≤ v8) → ((¬ v5 = 0) → ((¬ v5 = 0) → G 62 [some (.ref 0), some (.int v1), some (.int v2), some (.int v3), some (.int v4), some (.int v5), some (.int v6), some (.int (v7 + 1)), none, none, none] [] σ) ∧ (¬ (¬ v5 = 0) → vp_in ((((40 : Int32) * v1) + v3) + ((2 : Int32) * v7)) 160 ∧ vp_in (((((40 : Int32) * v1) + v3) + ((2 : Int32) * v7)) + (1 : Int32)) 160 ∧ ∃ g9 : gtX6_teach, qrX6_teach g9 (σ.1 10 ((((40 : Int32) * v1) + v3) + ((2 : Int32) * v7)).toNatClampNeg) (σ.1 10 (((((40 : Int32) * v1) + v3) + ((2 : Int32) * v7)) + (1 : Int32)).toNatClampNeg) σ ∧ ∀ (r7 : Int32) (σ8 : px_St), qoX6_teach g9 (σ.1 10 ((((40 : Int32) * v1) + v3) + ((2 : Int32) * v7)).toNatClampNeg) (σ.1 10 (((((40 : Int32) * v1) + v3) + ((2 : Int32) * v7)) + (1 : Int32)).toNatClampNeg) σ r7 σ8 → ((0 ≤ r7) → G 62 [some (.ref 0), some (.int v1), some (.int v2), some (.int v3), some (.int v4), some (.int v5), some (.int (v6 + 1)), some (.int (v7 + 1)), none, none, none] [] σ8) ∧ (¬ (0 ≤ r7) → G 208 [some (.ref 0), some (.int v1), some (.int v2), some (.int v3), some (.int v4), some (.int v5), some (.int v6), some (.int v7), some (.int ((((40 : Int32) * v1) + v3) + ((2 : Int32) * v7))), some (.int (0 : Int32)), none] [] σ8))) ∧ (¬ (¬ v5 = 0) → vp_in v1 4 ∧ ((¬ (σ.1 8 v1.toNatClampNeg) = (-4 : Int32)) → vp_in v1 4 ∧ (((σ.1 8 v1.toNatClampNeg) = v2) → (((lg_cmp ((v3.toInt64 + (((2 : Int32) * v7).toInt64)) + v8.toInt64) (0 : Int64)) < 0) → G 77 [some (.ref 0), some (.int v1), some (.int v2), some (.int v3), some (.int v4), some (.int (2 : Int32)), some (.int v6), some (.int v7), some (.int (v8 + 1)), none, none] [] σ) ∧ (¬ ((lg_cmp ((v3.toInt64 + (((2 : Int32) * v7).toInt64)) + v8.toInt64) (0 : Int64)) < 0) → vp_in v1 4 ∧ (((lg_cmp ((v3.toInt64 + (((2 : Int32) * v7).toInt64)) + v8.toInt64) ((σ.1 9 v1.toNatClampNeg).toInt64)) < 0) → G 77 [some (.ref 0), some (.int v1), some (.int v2), some (.int v3), some (.int v4), some (.int (0 : Int32)), some (.int v6), some (.int v7), some (.int (v8 + 1)), none, none] [] σ) ∧ (¬ ((lg_cmp ((v3.toInt64 + (((2 : Int32) * v7).toInt64)) + v8.toInt64) ((σ.1 9 v1.toNatClampNeg).toInt64)) < 0) → G 77 [some (.ref 0), some (.int v1), some (.int v2), some (.int v3), some (.int v4), some (.int (2 : Int32)), some (.int v6), some (.int v7), some (.int (v8 + 1)), none, none] [] σ))) ∧ (¬ ((σ.1 8 v1.toNatClampNeg) = v2) → G 77 [some (.ref 0), some (.int v1), some (.int v2), some (.int v3), some (.int v4), some (.int (3 : Int32)), some (.int v6), some (.int v7), some (.int (v8 + 1)), none, none] [] σ)) ∧ (¬ (¬ (σ.1 8 v1.toNatClampNeg) = (-4 : Int32)) → G 77 [some (.ref 0), some (.int v1), some (.int v2), some (.int v3), some (.int v4), some (.int (1 : Int32)), some (.int v6), some (.int v7), some (.int (v8 + 1)), none, none] [] σ)))) :
    G 77 [some (.ref 0), some (.int v1), some (.int v2), some (.int v3), some (.int v4), some (.int v5), some (.int v6), some (.int v7), some (.int v8), none, none] [] σ := by
  refine hG.1 40 _ _ rfl _ _ _ ?_
  refine hG.1 41 _ _ rfl _ _ _ ?_
  refine hG.1 42 _ _ rfl _ _ _ ?_
  refine ⟨fun h18 => ?_, fun h18 => ?_⟩
  · replace H := H.1 h18
    refine hG.1 90 _ _ rfl _ _ _ ?_
    refine hG.1 91 _ _ rfl _ _ _ ?_
    refine ⟨fun h6 => ?_, fun h6 => ?_⟩
    · replace H := H.1 h6
      refine hG.1 135 _ _ rfl _ _ _ ?_
      show G 247 [some (.ref 0), some (.int v1), some (.int v2), some (.int v3), some (.int v4), some (.int v5), some (.int v6), some (.int (v7 + 1)), some (.int v8), none, none] [] σ
      refine hG.1 136 _ _ rfl _ _ _ ?_
      refine hG.2 62 [some (.ref 0), some (.int v1), some (.int v2), some (.int v3), some (.int v4), some (.int v5), some (.int v6), some (.int (v7 + 1)), none, none, none] _ _ _ ⟨rfl, rfl, rfl, rfl, rfl, rfl, rfl, rfl, trivial⟩ ?_
      exact H
    · replace H := H.2 h6
      refine hG.1 92 _ _ rfl _ _ _ ?_
      refine hG.1 93 _ _ rfl _ _ _ ?_
      refine hG.1 94 _ _ rfl _ _ _ ?_
      refine hG.1 95 _ _ rfl _ _ _ ?_
      refine hG.1 96 _ _ rfl _ _ _ ?_
      refine hG.1 97 _ _ rfl _ _ _ ?_
      refine hG.1 98 _ _ rfl _ _ _ ?_
      refine hG.1 99 _ _ rfl _ _ _ ?_
      refine hG.1 100 _ _ rfl _ _ _ ?_
      refine hG.1 101 _ _ rfl _ _ _ ?_
      show G 182 [some (.ref 0), some (.int v1), some (.int v2), some (.int v3), some (.int v4), some (.int v5), some (.int v6), some (.int v7), some (.int ((((40 : Int32) * v1) + v3) + ((2 : Int32) * v7))), none, none] [] σ
      refine hG.1 102 _ _ rfl _ _ _ ?_
      refine hG.1 103 _ _ rfl _ _ _ ?_
      refine hG.1 104 _ _ rfl _ _ _ ?_
      refine ⟨⟨rfl, by decide⟩, ?_⟩
      refine hG.1 105 _ _ rfl _ _ _ ?_
      refine hG.1 106 _ _ rfl _ _ _ ?_
      refine ⟨⟨rfl, by decide⟩, H.1, ?_⟩
      replace H := H.2
      refine hG.1 107 _ _ rfl _ _ _ ?_
      refine hG.1 108 _ _ rfl _ _ _ ?_
      refine ⟨⟨rfl, by decide⟩, ?_⟩
      refine hG.1 109 _ _ rfl _ _ _ ?_
      refine hG.1 110 _ _ rfl _ _ _ ?_
      refine hG.1 111 _ _ rfl _ _ _ ?_
      refine hG.1 112 _ _ rfl _ _ _ ?_
      refine ⟨⟨rfl, by decide⟩, H.1, ?_⟩
      replace H := H.2
      refine hG.1 113 _ _ rfl _ _ _ ?_
      obtain ⟨g3, H⟩ := H
      refine ⟨⟨rfl, by decide⟩, Nat.le_of_ble_eq_true rfl, g3, ⟨_, _, rfl, H.1⟩, fun r1 σ2 hp4 => ?_⟩
      replace H := H.2 r1 σ2 hp4
      refine hG.1 114 _ _ rfl _ _ _ ?_
      refine ⟨fun h5 => ?_, fun h5 => ?_⟩
      · replace H := H.1 h5
        refine hG.1 134 _ _ rfl _ _ _ ?_
        show G 244 [some (.ref 0), some (.int v1), some (.int v2), some (.int v3), some (.int v4), some (.int v5), some (.int (v6 + 1)), some (.int v7), some (.int ((((40 : Int32) * v1) + v3) + ((2 : Int32) * v7))), none, none] [] σ2
        refine hG.1 135 _ _ rfl _ _ _ ?_
        show G 247 [some (.ref 0), some (.int v1), some (.int v2), some (.int v3), some (.int v4), some (.int v5), some (.int (v6 + 1)), some (.int (v7 + 1)), some (.int ((((40 : Int32) * v1) + v3) + ((2 : Int32) * v7))), none, none] [] σ2
        refine hG.1 136 _ _ rfl _ _ _ ?_
        refine hG.2 62 [some (.ref 0), some (.int v1), some (.int v2), some (.int v3), some (.int v4), some (.int v5), some (.int (v6 + 1)), some (.int (v7 + 1)), none, none, none] _ _ _ ⟨rfl, rfl, rfl, rfl, rfl, rfl, rfl, rfl, trivial⟩ ?_
        exact H
      · replace H := H.2 h5
        refine hG.1 115 _ _ rfl _ _ _ ?_
        refine hG.1 116 _ _ rfl _ _ _ ?_
        show G 208 [some (.ref 0), some (.int v1), some (.int v2), some (.int v3), some (.int v4), some (.int v5), some (.int v6), some (.int v7), some (.int ((((40 : Int32) * v1) + v3) + ((2 : Int32) * v7))), some (.int (0 : Int32)), none] [] σ2
        exact H
  · replace H := H.2 h18
    refine hG.1 43 _ _ rfl _ _ _ ?_
    refine hG.1 44 _ _ rfl _ _ _ ?_
    refine ⟨fun h17 => ?_, fun h17 => ?_⟩
    · replace H := H.1 h17
      refine hG.1 90 _ _ rfl _ _ _ ?_
      refine hG.1 91 _ _ rfl _ _ _ ?_
      refine ⟨fun h12 => ?_, fun h12 => ?_⟩
      · replace H := H.1 h12
        refine hG.1 135 _ _ rfl _ _ _ ?_
        show G 247 [some (.ref 0), some (.int v1), some (.int v2), some (.int v3), some (.int v4), some (.int v5), some (.int v6), some (.int (v7 + 1)), some (.int v8), none, none] [] σ
        refine hG.1 136 _ _ rfl _ _ _ ?_
        refine hG.2 62 [some (.ref 0), some (.int v1), some (.int v2), some (.int v3), some (.int v4), some (.int v5), some (.int v6), some (.int (v7 + 1)), none, none, none] _ _ _ ⟨rfl, rfl, rfl, rfl, rfl, rfl, rfl, rfl, trivial⟩ ?_
        exact H
      · replace H := H.2 h12
        refine hG.1 92 _ _ rfl _ _ _ ?_
        refine hG.1 93 _ _ rfl _ _ _ ?_
        refine hG.1 94 _ _ rfl _ _ _ ?_
        refine hG.1 95 _ _ rfl _ _ _ ?_
        refine hG.1 96 _ _ rfl _ _ _ ?_
        refine hG.1 97 _ _ rfl _ _ _ ?_
        refine hG.1 98 _ _ rfl _ _ _ ?_
        refine hG.1 99 _ _ rfl _ _ _ ?_
        refine hG.1 100 _ _ rfl _ _ _ ?_
        refine hG.1 101 _ _ rfl _ _ _ ?_
        show G 182 [some (.ref 0), some (.int v1), some (.int v2), some (.int v3), some (.int v4), some (.int v5), some (.int v6), some (.int v7), some (.int ((((40 : Int32) * v1) + v3) + ((2 : Int32) * v7))), none, none] [] σ
        refine hG.1 102 _ _ rfl _ _ _ ?_
        refine hG.1 103 _ _ rfl _ _ _ ?_
        refine hG.1 104 _ _ rfl _ _ _ ?_
        refine ⟨⟨rfl, by decide⟩, ?_⟩
        refine hG.1 105 _ _ rfl _ _ _ ?_
        refine hG.1 106 _ _ rfl _ _ _ ?_
        refine ⟨⟨rfl, by decide⟩, H.1, ?_⟩
        replace H := H.2
        refine hG.1 107 _ _ rfl _ _ _ ?_
        refine hG.1 108 _ _ rfl _ _ _ ?_
        refine ⟨⟨rfl, by decide⟩, ?_⟩
        refine hG.1 109 _ _ rfl _ _ _ ?_
        refine hG.1 110 _ _ rfl _ _ _ ?_
        refine hG.1 111 _ _ rfl _ _ _ ?_
        refine hG.1 112 _ _ rfl _ _ _ ?_
        refine ⟨⟨rfl, by decide⟩, H.1, ?_⟩
        replace H := H.2
        refine hG.1 113 _ _ rfl _ _ _ ?_
        obtain ⟨g9, H⟩ := H
        refine ⟨⟨rfl, by decide⟩, Nat.le_of_ble_eq_true rfl, g9, ⟨_, _, rfl, H.1⟩, fun r7 σ8 hp10 => ?_⟩
        replace H := H.2 r7 σ8 hp10
        refine hG.1 114 _ _ rfl _ _ _ ?_
        refine ⟨fun h11 => ?_, fun h11 => ?_⟩
        · replace H := H.1 h11
          refine hG.1 134 _ _ rfl _ _ _ ?_
          show G 244 [some (.ref 0), some (.int v1), some (.int v2), some (.int v3), some (.int v4), some (.int v5), some (.int (v6 + 1)), some (.int v7), some (.int ((((40 : Int32) * v1) + v3) + ((2 : Int32) * v7))), none, none] [] σ8
          refine hG.1 135 _ _ rfl _ _ _ ?_
          show G 247 [some (.ref 0), some (.int v1), some (.int v2), some (.int v3), some (.int v4), some (.int v5), some (.int (v6 + 1)), some (.int (v7 + 1)), some (.int ((((40 : Int32) * v1) + v3) + ((2 : Int32) * v7))), none, none] [] σ8
          refine hG.1 136 _ _ rfl _ _ _ ?_
          refine hG.2 62 [some (.ref 0), some (.int v1), some (.int v2), some (.int v3), some (.int v4), some (.int v5), some (.int (v6 + 1)), some (.int (v7 + 1)), none, none, none] _ _ _ ⟨rfl, rfl, rfl, rfl, rfl, rfl, rfl, rfl, trivial⟩ ?_
          exact H
        · replace H := H.2 h11
          refine hG.1 115 _ _ rfl _ _ _ ?_
          refine hG.1 116 _ _ rfl _ _ _ ?_
          show G 208 [some (.ref 0), some (.int v1), some (.int v2), some (.int v3), some (.int v4), some (.int v5), some (.int v6), some (.int v7), some (.int ((((40 : Int32) * v1) + v3) + ((2 : Int32) * v7))), some (.int (0 : Int32)), none] [] σ8
          exact H
    · replace H := H.2 h17
      refine hG.1 45 _ _ rfl _ _ _ ?_
      refine hG.1 46 _ _ rfl _ _ _ ?_
      refine hG.1 47 _ _ rfl _ _ _ ?_
      refine hG.1 48 _ _ rfl _ _ _ ?_
      refine hG.1 49 _ _ rfl _ _ _ ?_
      refine hG.1 50 _ _ rfl _ _ _ ?_
      refine hG.1 51 _ _ rfl _ _ _ ?_
      refine hG.1 52 _ _ rfl _ _ _ ?_
      refine hG.1 53 _ _ rfl _ _ _ ?_
      refine hG.1 54 _ _ rfl _ _ _ ?_
      refine hG.1 55 _ _ rfl _ _ _ ?_
      show G 102 [some (.ref 0), some (.int v1), some (.int v2), some (.int v3), some (.int v4), some (.int v5), some (.int v6), some (.int v7), some (.int v8), some (.long ((v3.toInt64 + (((2 : Int32) * v7).toInt64)) + v8.toInt64)), none] [] σ
      refine hG.1 56 _ _ rfl _ _ _ ?_
      refine hG.1 57 _ _ rfl _ _ _ ?_
      refine ⟨⟨rfl, by decide⟩, ?_⟩
      refine hG.1 58 _ _ rfl _ _ _ ?_
      refine hG.1 59 _ _ rfl _ _ _ ?_
      refine ⟨⟨rfl, by decide⟩, H.1, ?_⟩
      replace H := H.2
      refine hG.1 60 _ _ rfl _ _ _ ?_
      refine hG.1 61 _ _ rfl _ _ _ ?_
      refine ⟨fun h16 => ?_, fun h16 => ?_⟩
      · replace H := H.1 h16
        refine hG.1 64 _ _ rfl _ _ _ ?_
        refine hG.1 65 _ _ rfl _ _ _ ?_
        refine ⟨⟨rfl, by decide⟩, ?_⟩
        refine hG.1 66 _ _ rfl _ _ _ ?_
        refine hG.1 67 _ _ rfl _ _ _ ?_
        refine ⟨⟨rfl, by decide⟩, H.1, ?_⟩
        replace H := H.2
        refine hG.1 68 _ _ rfl _ _ _ ?_
        refine hG.1 69 _ _ rfl _ _ _ ?_
        refine ⟨fun h15 => ?_, fun h15 => ?_⟩
        · replace H := H.1 h15
          refine hG.1 72 _ _ rfl _ _ _ ?_
          refine hG.1 73 _ _ rfl _ _ _ ?_
          refine hG.1 74 _ _ rfl _ _ _ ?_
          refine hG.1 75 _ _ rfl _ _ _ ?_
          refine ⟨fun h14 => ?_, fun h14 => ?_⟩
          · replace H := H.1 h14
            refine hG.1 84 _ _ rfl _ _ _ ?_
            refine hG.1 85 _ _ rfl _ _ _ ?_
            refine hG.1 87 _ _ rfl _ _ _ ?_
            show G 158 [some (.ref 0), some (.int v1), some (.int v2), some (.int v3), some (.int v4), some (.int (2 : Int32)), some (.int v6), some (.int v7), some (.int v8), some (.long ((v3.toInt64 + (((2 : Int32) * v7).toInt64)) + v8.toInt64)), none] [] σ
            refine hG.1 88 _ _ rfl _ _ _ ?_
            show G 161 [some (.ref 0), some (.int v1), some (.int v2), some (.int v3), some (.int v4), some (.int (2 : Int32)), some (.int v6), some (.int v7), some (.int (v8 + 1)), some (.long ((v3.toInt64 + (((2 : Int32) * v7).toInt64)) + v8.toInt64)), none] [] σ
            refine hG.1 89 _ _ rfl _ _ _ ?_
            refine hG.2 77 [some (.ref 0), some (.int v1), some (.int v2), some (.int v3), some (.int v4), some (.int (2 : Int32)), some (.int v6), some (.int v7), some (.int (v8 + 1)), none, none] _ _ _ ⟨rfl, rfl, rfl, rfl, rfl, rfl, rfl, rfl, rfl, trivial⟩ ?_
            exact H
          · replace H := H.2 h14
            refine hG.1 76 _ _ rfl _ _ _ ?_
            refine hG.1 77 _ _ rfl _ _ _ ?_
            refine hG.1 78 _ _ rfl _ _ _ ?_
            refine ⟨⟨rfl, by decide⟩, ?_⟩
            refine hG.1 79 _ _ rfl _ _ _ ?_
            refine hG.1 80 _ _ rfl _ _ _ ?_
            refine ⟨⟨rfl, by decide⟩, H.1, ?_⟩
            replace H := H.2
            refine hG.1 81 _ _ rfl _ _ _ ?_
            refine hG.1 82 _ _ rfl _ _ _ ?_
            refine hG.1 83 _ _ rfl _ _ _ ?_
            refine ⟨fun h13 => ?_, fun h13 => ?_⟩
            · replace H := H.1 h13
              refine hG.1 86 _ _ rfl _ _ _ ?_
              refine hG.1 87 _ _ rfl _ _ _ ?_
              show G 158 [some (.ref 0), some (.int v1), some (.int v2), some (.int v3), some (.int v4), some (.int (0 : Int32)), some (.int v6), some (.int v7), some (.int v8), some (.long ((v3.toInt64 + (((2 : Int32) * v7).toInt64)) + v8.toInt64)), none] [] σ
              refine hG.1 88 _ _ rfl _ _ _ ?_
              show G 161 [some (.ref 0), some (.int v1), some (.int v2), some (.int v3), some (.int v4), some (.int (0 : Int32)), some (.int v6), some (.int v7), some (.int (v8 + 1)), some (.long ((v3.toInt64 + (((2 : Int32) * v7).toInt64)) + v8.toInt64)), none] [] σ
              refine hG.1 89 _ _ rfl _ _ _ ?_
              refine hG.2 77 [some (.ref 0), some (.int v1), some (.int v2), some (.int v3), some (.int v4), some (.int (0 : Int32)), some (.int v6), some (.int v7), some (.int (v8 + 1)), none, none] _ _ _ ⟨rfl, rfl, rfl, rfl, rfl, rfl, rfl, rfl, rfl, trivial⟩ ?_
              exact H
            · replace H := H.2 h13
              refine hG.1 84 _ _ rfl _ _ _ ?_
              refine hG.1 85 _ _ rfl _ _ _ ?_
              refine hG.1 87 _ _ rfl _ _ _ ?_
              show G 158 [some (.ref 0), some (.int v1), some (.int v2), some (.int v3), some (.int v4), some (.int (2 : Int32)), some (.int v6), some (.int v7), some (.int v8), some (.long ((v3.toInt64 + (((2 : Int32) * v7).toInt64)) + v8.toInt64)), none] [] σ
              refine hG.1 88 _ _ rfl _ _ _ ?_
              show G 161 [some (.ref 0), some (.int v1), some (.int v2), some (.int v3), some (.int v4), some (.int (2 : Int32)), some (.int v6), some (.int v7), some (.int (v8 + 1)), some (.long ((v3.toInt64 + (((2 : Int32) * v7).toInt64)) + v8.toInt64)), none] [] σ
              refine hG.1 89 _ _ rfl _ _ _ ?_
              refine hG.2 77 [some (.ref 0), some (.int v1), some (.int v2), some (.int v3), some (.int v4), some (.int (2 : Int32)), some (.int v6), some (.int v7), some (.int (v8 + 1)), none, none] _ _ _ ⟨rfl, rfl, rfl, rfl, rfl, rfl, rfl, rfl, rfl, trivial⟩ ?_
              exact H
        · replace H := H.2 h15
          refine hG.1 70 _ _ rfl _ _ _ ?_
          refine hG.1 71 _ _ rfl _ _ _ ?_
          refine hG.1 87 _ _ rfl _ _ _ ?_
          show G 158 [some (.ref 0), some (.int v1), some (.int v2), some (.int v3), some (.int v4), some (.int (3 : Int32)), some (.int v6), some (.int v7), some (.int v8), some (.long ((v3.toInt64 + (((2 : Int32) * v7).toInt64)) + v8.toInt64)), none] [] σ
          refine hG.1 88 _ _ rfl _ _ _ ?_
          show G 161 [some (.ref 0), some (.int v1), some (.int v2), some (.int v3), some (.int v4), some (.int (3 : Int32)), some (.int v6), some (.int v7), some (.int (v8 + 1)), some (.long ((v3.toInt64 + (((2 : Int32) * v7).toInt64)) + v8.toInt64)), none] [] σ
          refine hG.1 89 _ _ rfl _ _ _ ?_
          refine hG.2 77 [some (.ref 0), some (.int v1), some (.int v2), some (.int v3), some (.int v4), some (.int (3 : Int32)), some (.int v6), some (.int v7), some (.int (v8 + 1)), none, none] _ _ _ ⟨rfl, rfl, rfl, rfl, rfl, rfl, rfl, rfl, rfl, trivial⟩ ?_
          exact H
      · replace H := H.2 h16
        refine hG.1 62 _ _ rfl _ _ _ ?_
        refine hG.1 63 _ _ rfl _ _ _ ?_
        refine hG.1 87 _ _ rfl _ _ _ ?_
        show G 158 [some (.ref 0), some (.int v1), some (.int v2), some (.int v3), some (.int v4), some (.int (1 : Int32)), some (.int v6), some (.int v7), some (.int v8), some (.long ((v3.toInt64 + (((2 : Int32) * v7).toInt64)) + v8.toInt64)), none] [] σ
        refine hG.1 88 _ _ rfl _ _ _ ?_
        show G 161 [some (.ref 0), some (.int v1), some (.int v2), some (.int v3), some (.int v4), some (.int (1 : Int32)), some (.int v6), some (.int v7), some (.int (v8 + 1)), some (.long ((v3.toInt64 + (((2 : Int32) * v7).toInt64)) + v8.toInt64)), none] [] σ
        refine hG.1 89 _ _ rfl _ _ _ ?_
        refine hG.2 77 [some (.ref 0), some (.int v1), some (.int v2), some (.int v3), some (.int v4), some (.int (1 : Int32)), some (.int v6), some (.int v7), some (.int (v8 + 1)), none, none] _ _ _ ⟨rfl, rfl, rfl, rfl, rfl, rfl, rfl, rfl, rfl, trivial⟩ ?_
        exact H
set_option maxRecDepth 100000 in
set_option maxHeartbeats 4000000 in
theorem sgX6_read_208 {po : Int32 → px_St → Prop} {G : px_K} (hG : px_cl (opX6_read po) G) (v1 : Int32) (v2 : Int32) (v3 : Int32) (v4 : Int32) (v5 : Int32) (v6 : Int32) (v7 : Int32) (v8 : Int32) (v9 : Int32) (σ : px_St)
    (H : (((61 : Int32) ≤ v9) → po ((-20 : Int32) - v7) σ) ∧ (¬ ((61 : Int32) ≤ v9) → vp_in v9 61 ∧ vp_in v9 183 ∧ G 208 [some (.ref 0), some (.int v1), some (.int v2), some (.int v3), some (.int v4), some (.int v5), some (.int v6), some (.int v7), some (.int v8), some (.int (v9 + 1)), none] [] (px_up σ 1 v9.toNatClampNeg (σ.1 11 v9.toNatClampNeg)))) :
    G 208 [some (.ref 0), some (.int v1), some (.int v2), some (.int v3), some (.int v4), some (.int v5), some (.int v6), some (.int v7), some (.int v8), some (.int v9), none] [] σ := by
  refine hG.1 117 _ _ rfl _ _ _ ?_
  refine hG.1 118 _ _ rfl _ _ _ ?_
  refine hG.1 119 _ _ rfl _ _ _ ?_
  refine ⟨fun h1 => ?_, fun h1 => ?_⟩
  · replace H := H.1 h1
    refine hG.1 130 _ _ rfl _ _ _ ?_
    refine hG.1 131 _ _ rfl _ _ _ ?_
    refine hG.1 132 _ _ rfl _ _ _ ?_
    refine hG.1 133 _ _ rfl _ _ _ ?_
    exact ⟨rfl, H⟩
  · replace H := H.2 h1
    refine hG.1 120 _ _ rfl _ _ _ ?_
    refine hG.1 121 _ _ rfl _ _ _ ?_
    refine ⟨⟨rfl, by decide⟩, ?_⟩
    refine hG.1 122 _ _ rfl _ _ _ ?_
    refine hG.1 123 _ _ rfl _ _ _ ?_
    refine hG.1 124 _ _ rfl _ _ _ ?_
    refine ⟨⟨rfl, by decide⟩, ?_⟩
    refine hG.1 125 _ _ rfl _ _ _ ?_
    refine hG.1 126 _ _ rfl _ _ _ ?_
    refine ⟨⟨rfl, by decide⟩, H.1, ?_⟩
    replace H := H.2
    refine hG.1 127 _ _ rfl _ _ _ ?_
    refine ⟨⟨rfl, by decide⟩, H.1, ?_⟩
    replace H := H.2
    refine hG.1 128 _ _ rfl _ _ _ ?_
    show G 232 [some (.ref 0), some (.int v1), some (.int v2), some (.int v3), some (.int v4), some (.int v5), some (.int v6), some (.int v7), some (.int v8), some (.int (v9 + 1)), none] [] (px_up σ 1 v9.toNatClampNeg (σ.1 11 v9.toNatClampNeg))
    refine hG.1 129 _ _ rfl _ _ _ ?_
    exact H
set_option maxRecDepth 100000 in
set_option maxHeartbeats 4000000 in
theorem hhX6_read (g : gtX6_read) (v1 : Int32) (v2 : Int32) (v3 : Int32) (v4 : Int32) (σ : px_St) (h : qrX6_read g v1 v2 v3 v4 σ) (G : px_K) (hG : px_cl (opX6_read (qoX6_read g v1 v2 v3 v4 σ)) G) : G 0 (px_ent 11 [.ref 0, .int v1, .int v2, .int v3, .int v4]) [] σ := by
  obtain ⟨hX, hok⟩ := h
  have hvk := hok.1.1
  have h5 := hvk.1.1
  refine sgX6_read_0 hG _ _ _ _ σ ⟨(), trivial, fun r1 σ1 h1 => ?_⟩
  obtain ⟨rfl, b1⟩ := h1
  refine bz2 b1 (fun z => ⟨(), trivial, fun r2 σ2 h2 => ?_⟩) (fun z => ?_)
  · obtain ⟨rfl, b2⟩ := h2
    refine bz1 (in_c (a := 0) (b := 20) (by decide) (by decide) b2) (fun y => ?_) (fun y => ?_)
    · obtain ⟨k, hk, rfl⟩ := (rngc 3 3 rfl (by omega)).mp z.1
      obtain ⟨l, hl, rfl⟩ := (rngc 2 2 rfl (by omega)).mp z.2
      obtain ⟨n, hn, rfl⟩ := (rngc 20 20 rfl (by omega)).mp y
      have hin : vp_in (nI k) 4 := vp_in_nI (by omega) (by decide)
      obtain ⟨o, ho⟩ : ∃ o, o = g.2.2.2.2.2.2 k := ⟨_, rfl⟩
      have how : ∀ w, o = some w → w.1 ≤ 2 ∧ w.2.1 ≤ 40 := fun w hw => hok.2.2.2.2.2.2 k w (by rw [← ho]; exact hw)
      have hwpl : x_wp (nI l) v3 o ≤ 20 := x_wp_le (fun w hw => (how w hw).2)
      obtain ⟨m, hm⟩ : ∃ m, m = min n (x_wp (nI l) v3 o) := ⟨_, rfl⟩
      obtain ⟨f, hf⟩ : ∃ f, f = v3.toNatClampNeg := ⟨_, rfl⟩
      obtain ⟨c, hc⟩ : ∃ c, c = x_cells o := ⟨_, rfl⟩
      have ex : x_read g (nI k) (nI l) v3 (nI n) = x_read1 g c f m n (x_fc (nI l) o) (pv_fb (x_good g c f) m 0) := by
        unfold x_read
        rw [xif_t ⟨z.1, z.2, y⟩, nI_clamp (by omega), nI_clamp (by omega), ← ho]
        unfold x_read0
        rw [hc, hf, hm]
      -- all is read: from i pairs on, with a reason
      have fin : ∀ i R σ', i ≤ m → pv_fb (x_good g c f) m 0 = pv_fb (x_good g c f) (m - i) i → m = i → R = (if m < n then x_fc (nI l) o else 0) → mo_is σ' (xV g (pv_lrns g.1 c f i)) → qoX6_read g (nI k) (nI l) v3 (nI n) σ2 (nI i) (px_up σ' 0 23 (nI R)) := by
        intro i R σ' hi hfb hmi hR hs
        subst hmi
        unfold qoX6_read
        rw [ex, hfb, Nat.sub_self, pv_fb]
        exact ⟨rfl, mo_R hs (by rw [hR])⟩
      -- the answer behind a reason
      have stop : ∀ i j R σ', R ≠ 0 → R ≤ 3 → i ≤ m → pv_fb (x_good g c f) m 0 = pv_fb (x_good g c f) (m - i) i → m = i → R = (if m < n then x_fc (nI l) o else 0) → mo_is σ' (xV g (pv_lrns g.1 c f i)) → G 62 [some (.ref 0), some (.int (nI k)), some (.int (nI l)), some (.int v3), some (.int (nI n)), some (.int (nI R)), some (.int (nI i)), some (.int j), none, none, none] [] σ' := by
        intro i j R σ' hR0 hR3 hi hfb hmi hR hs
        refine sgX6_read_62 hG _ _ _ _ _ _ _ σ' ⟨fun _ => fin i R σ' hi hfb hmi hR hs, fun _ => ⟨fun _ => fin i R σ' hi hfb hmi hR hs, fun q => absurd (fun e => hR0 ((nIe R 0 rfl rfl (by omega) (by omega)).mp e)) q⟩⟩
      have stop2 : ∀ i j c' R σ', R ≠ 0 → R ≤ 3 → i ≤ m → pv_fb (x_good g c f) m 0 = pv_fb (x_good g c f) (m - i) i → m = i → R = (if m < n then x_fc (nI l) o else 0) → mo_is σ' (xV g (pv_lrns g.1 c f i)) → G 77 [some (.ref 0), some (.int (nI k)), some (.int (nI l)), some (.int v3), some (.int (nI n)), some (.int (nI R)), some (.int (nI i)), some (.int j), some (.int c'), none, none] [] σ' := by
        intro i j c' R σ' hR0 hR3 hi hfb hmi hR hs
        have hne : ¬ nI R = 0 := fun e => hR0 ((nIe R 0 rfl rfl (by omega) (by omega)).mp e)
        have s := stop i (j + 1) R σ' hR0 hR3 hi hfb hmi hR hs
        exact sgX6_read_77 hG _ _ _ _ _ _ _ _ σ' ⟨fun _ => ⟨fun _ => s, fun q => absurd hne q⟩, fun _ => ⟨fun _ => ⟨fun _ => s, fun q => absurd hne q⟩, fun q => absurd hne q⟩⟩
      -- the pairs
      have loop : ∀ t i, i + t = n → i ≤ m → (∀ j, j < i → x_good g c f j) → pv_fb (x_good g c f) m 0 = pv_fb (x_good g c f) (m - i) i → ∀ σ', mo_is σ' (xV g (pv_lrns g.1 c f i)) → (∀ j, j < 61 → σ'.1 11 j = σ2.1 1 j) → G 62 [some (.ref 0), some (.int (nI k)), some (.int (nI l)), some (.int v3), some (.int (nI n)), some (.int (0 : Int32)), some (.int (nI i)), some (.int (nI i)), none, none, none] [] σ' := by
        intro t
        induction t with
        | zero =>
          intro i hi him hgd hfb σ' hs hb
          refine sgX6_read_62 hG _ _ _ _ _ _ _ σ' ⟨fun _ => fin i 0 σ' him hfb (by omega) (by rw [if_neg (by omega)]) hs, fun q => absurd (nI_le (by omega) (by omega)) q⟩
        | succ t ih =>
          intro i hi him hgd hfb σ' hs hb
          refine sgX6_read_62 hG _ _ _ _ _ _ _ σ' ⟨fun q => absurd q (nI_ge (by omega) (by omega)), fun _ => ⟨fun q => absurd rfl q, fun _ => ?_⟩⟩
          have hsh := hs.2.2.2.2.2.2 k (by omega)
          have kc : (nI k).toNatClampNeg = k := nI_clamp (by omega)
          have h02 : ¬ (2 : Int32) ≤ nI 0 := by decide
          have h12 : ¬ (2 : Int32) ≤ nI 1 := by decide
          cases hoc : o with
          | none =>
            have e8 := hsh.1 (by show g.2.2.2.2.2.2 k = none; rw [← ho]; exact hoc)
            have hm0 : m = min n 0 := by rw [hoc] at hm; exact hm
            refine sgX6_read_77 hG _ _ _ _ _ _ _ (nI 0) σ' ⟨fun q => absurd q h02, fun _ => ⟨fun q => absurd rfl q, fun _ => ⟨hin, ?_⟩⟩⟩
            rw [kc, e8]
            refine ⟨fun q => absurd rfl q, fun _ => stop2 i _ _ 1 σ' (by omega) (by omega) him hfb (by omega) ?_ hs⟩
            rw [if_pos (by omega), hoc]; rfl
          | some w =>
            obtain ⟨f1, f2, f3⟩ := hsh.2 w (by show g.2.2.2.2.2.2 k = some w; rw [← ho]; exact hoc)
            obtain ⟨w1, w2⟩ := how w hoc
            have n4 : ¬ nI w.1 = -4 := by
              have : ∀ j, j ≤ 2 → ¬ nI j = -4 := by decide
              exact this _ w1
            by_cases hlw : nI w.1 = nI l
            · have hnx := wp_next (i := i) (f := v3) w2 hlw (by rw [hoc] at hm; omega)
              have p0 := lpos (f := v3) (i := i) (c := 0) (s := w.2.1) (by omega) (by omega) w2
              have p1 := lpos (f := v3) (i := i) (c := 1) (s := w.2.1) (by omega) (by omega) w2
              have hfc : x_fc (nI l) o = 2 := by rw [hoc]; exact if_pos hlw
              have hmm : m = min n (x_wp (nI l) v3 (some w)) := by rw [hoc] at hm; exact hm
              have bad : ¬ i < x_wp (nI l) v3 (some w) → ∀ c', G 77 [some (.ref 0), some (.int (nI k)), some (.int (nI l)), some (.int v3), some (.int (nI n)), some (.int (nI 2)), some (.int (nI i)), some (.int (nI i)), some (.int c'), none, none] [] σ' := by
                intro hb2 c'
                exact stop2 i _ _ 2 σ' (by omega) (by omega) him hfb (by omega) (by rw [if_pos (by omega), hfc]) hs
              refine sgX6_read_77 hG _ _ _ _ _ _ _ (nI 0) σ' ⟨fun q => absurd q h02, fun _ => ⟨fun q => absurd rfl q, fun _ => ⟨hin, ?_⟩⟩⟩
              rw [kc, f1, f2, p0.1, p0.2]
              refine ⟨fun _ => ⟨hin, fun _ => ⟨fun q => bad (fun q2 => by have := (hnx.mp q2).1; omega) _, fun q => ⟨hin, fun q3 => ?_, fun q3 => bad (fun q2 => by have := (hnx.mp q2).2; omega) _⟩⟩, fun q => absurd hlw q⟩, fun q => absurd n4 q⟩
              refine sgX6_read_77 hG _ _ _ _ _ _ _ (nI 1) σ' ⟨fun q => absurd q h12, fun _ => ⟨fun q => absurd rfl q, fun _ => ⟨hin, ?_⟩⟩⟩
              rw [kc, f1, f2, p1.1, p1.2]
              refine ⟨fun _ => ⟨hin, fun _ => ⟨fun q5 => by omega, fun q5 => ⟨hin, fun q6 => ?_, fun q6 => bad (fun q2 => by have := (hnx.mp q2).2; omega) _⟩⟩, fun q => absurd hlw q⟩, fun q => absurd n4 q⟩
              -- a whole pair
              have hix : i < x_wp (nI l) v3 (some w) := hnx.mpr (by omega)
              have hime : i < m := by omega
              obtain ⟨f', ef, hle⟩ := x_wp_at (m := i + 1) w2 hix (by omega)
              have ef2 : f = f' := by rw [hf, ef, nI_clamp (by omega)]
              subst ef2
              have e2i : (40 : Int32) * nI k + nI f + (2 : Int32) * nI i = nI (40 * k + (f + 2 * i)) := by
                rw [ix40, show (2 : Int32) = nI 2 from rfl, pk_mul, nI_add, Nat.add_assoc]
              obtain ⟨l1, l2, l3⟩ := pv_lrns_ok (c := c) (f := f) hvk i hgd
              have hxo : xo (xV g (pv_lrns g.1 c f i)) := ⟨⟨l1, by show (pv_lrns g.1 c f i).2.2.1 ≤ 999; rw [l3]; exact hok.1.2⟩, hok.2⟩
              have ec0 : σ'.1 10 (40 * k + (f + 2 * i)) = c (f + 2 * i) := by rw [hc, hoc]; exact f3 _ (by omega)
              have ec1 : σ'.1 10 (40 * k + (f + 2 * i + 1)) = c (f + 2 * i + 1) := by rw [hc, hoc]; exact f3 _ (by omega)
              refine sgX6_read_77 hG _ _ _ _ _ _ _ (nI 2) σ' ⟨fun _ => ⟨fun q => absurd rfl q, fun _ => ?_⟩, fun q => absurd (by decide) q⟩
              rw [ef, e2i, nI_1, nI_clamp (by omega), nI_clamp (by omega), Nat.add_assoc (40 * k), ec0, ec1, nI_1]
              refine ⟨vp_in_nI (by omega) (by decide), vp_in_nI (by omega) (by decide), xV g (pv_lrns g.1 c f i), ⟨hs, hxo⟩, fun r3 σ3 h3 => ?_⟩
              obtain ⟨e3, hs3, e11⟩ := h3
              by_cases hgi : x_good g c f i
              · have hgi2 : xP (xV g (pv_lrns g.1 c f i)) (c (f + 2 * i)) ∧ (0 ≤ c (f + 2 * i + 1) ∧ c (f + 2 * i + 1) ≤ 9) := ⟨⟨hgi.1.1, by show _ ≤ nI (pv_lrns g.1 c f i).1 - 1; rw [l2]; exact hgi.1.2⟩, hgi.2⟩
                unfold x_teach at e3 hs3
                rw [xif_t hgi2] at e3 hs3
                have hr0 : 0 ≤ r3 := by
                  rw [e3]
                  refine Int32.not_lt.mp (nI_pos ?_)
                  show (pv_learn ((pv_lrns g.1 c f i).2.2.2 (c (f + 2 * i)).toNatClampNeg) (c (f + 2 * i + 1)).toNatClampNeg).2.2.length < 2 ^ 31
                  obtain ⟨p, hp, ep⟩ := (rng1 (by omega)).mp hgi.1
                  obtain ⟨s, hs', es⟩ := (rngc 9 9 rfl (by omega)).mp hgi.2
                  rw [ep, es, nI_clamp (by omega), nI_clamp (by omega)]
                  have := (pv_learn_ok (s := s) (l1.1.2.2.2 p (by omega)) hs').2.1
                  omega
                refine ⟨fun _ => ?_, fun q => absurd hr0 q⟩
                rw [← ef]
                refine ih (i + 1) (by omega) (by omega) (fun j hj => ?_) ?_ σ3 hs3 (fun j hj => by rw [e11]; exact hb j hj)
                · by_cases hji : j = i
                  · rw [hji]; exact hgi
                  · exact hgd j (by omega)
                · rw [hfb, show m - i = (m - (i + 1)) + 1 by omega, pv_fb, xif_t hgi]
              · have hgi2 : ¬ (xP (xV g (pv_lrns g.1 c f i)) (c (f + 2 * i)) ∧ (0 ≤ c (f + 2 * i + 1) ∧ c (f + 2 * i + 1) ≤ 9)) := fun q => hgi ⟨⟨q.1.1, by have q2 := q.1.2; change _ ≤ nI (pv_lrns g.1 c f i).1 - 1 at q2; rw [l2] at q2; exact q2⟩, q.2⟩
                unfold x_teach at e3 hs3
                rw [xif_f hgi2] at e3 hs3
                refine ⟨fun q => absurd q (by rw [e3]; exact (show ¬ (0 : Int32) ≤ -1 by decide)), fun _ => ?_⟩
                have ebad : pv_fb (x_good g c f) m 0 = some i := by rw [hfb, show m - i = (m - (i + 1)) + 1 by omega, pv_fb, xif_f hgi]
                have undo : ∀ b, ∀ u j, j + u = 61 → ∀ τ, (∀ q, q ≠ 1 → τ.1 q = σ3.1 q) → (∀ q, q < j → τ.1 1 q = σ2.1 1 q) → (∀ q, j ≤ q → τ.1 1 q = σ3.1 1 q) → G 208 [some (.ref 0), some (.int (nI k)), some (.int (nI l)), some (.int v3), some (.int (nI n)), some (.int (0 : Int32)), some (.int (nI i)), some (.int (nI i)), some (.int b), some (.int (nI j)), none] [] τ := by
                  intro b u
                  induction u with
                  | zero =>
                    intro j hj τ t1 t2 t3
                    refine sgX6_read_208 hG _ _ _ _ _ _ _ _ _ τ ⟨fun _ => ?_, fun q => absurd ((nIle 61 j rfl rfl (by omega) (by omega)).mpr (by omega)) q⟩
                    unfold qoX6_read
                    rw [ex, ebad]
                    refine ⟨rfl, ?_⟩
                    have hg := mo_1 (σ' := τ) (V := g.1) (S := g.2.1) hs3 (fun q hq => t1 q (by omega)) (fun q _ => by rw [t1 0 (by omega)]) (hX.1.cg hvk.1 (fun q hq => t2 q (by omega))) (hX.2.1.cg hok.2.1.1 (fun q a b => t2 q (by omega))) (fun q hq => t3 q (by omega))
                    exact hg
                  | succ u ihu =>
                    intro j hj τ t1 t2 t3
                    refine sgX6_read_208 hG _ _ _ _ _ _ _ _ _ τ ⟨fun q => absurd ((nIle 61 j rfl rfl (by omega) (by omega)).mp q) (by omega), fun _ => ⟨vp_in_nI (by omega) (by decide), vp_in_nI (by omega) (by decide), ?_⟩⟩
                    rw [nI_1, nI_clamp (by omega), t1 11 (by omega), e11, hb j (by omega)]
                    refine ihu (j + 1) (by omega) _ (fun q hq => by rw [px_up_n hq]; exact t1 q hq) (fun q hq => ?_) (fun q hq => by rw [px_up_at, if_neg (by omega)]; exact t3 q (by omega))
                    rw [px_up_at]
                    by_cases hqj : q = j
                    · rw [if_pos ⟨rfl, hqj⟩, hqj]
                    · rw [if_neg (by omega)]; exact t2 q (by omega)
                rw [← ef]
                exact undo _ 61 0 (by omega) σ3 (fun _ _ => rfl) (fun q hq => absurd hq (Nat.not_lt_zero q)) (fun _ _ => rfl)
            · have hfc : x_fc (nI l) o = 3 := by rw [hoc]; exact if_neg hlw
              have hw0 : x_wp (nI l) v3 (some w) = 0 := if_neg (fun q => hlw q.1)
              have hm0 : m = min n 0 := by rw [hoc, hw0] at hm; exact hm
              refine sgX6_read_77 hG _ _ _ _ _ _ _ (nI 0) σ' ⟨fun q => absurd q h02, fun _ => ⟨fun q => absurd rfl q, fun _ => ⟨hin, ?_⟩⟩⟩
              rw [kc, f1]
              refine ⟨fun _ => ⟨hin, fun q => absurd q hlw, fun _ => stop2 i _ _ 3 σ' (by omega) (by omega) him hfb (by omega) ?_ hs⟩, fun q => absurd n4 q⟩
              rw [if_pos (by omega), hfc]
      have save : ∀ t j, j + t = 61 → ∀ σ', (∀ q, q ≠ 11 → σ'.1 q = σ2.1 q) → (∀ q, q < j → σ'.1 11 q = σ2.1 1 q) → G 26 [some (.ref 0), some (.int (nI k)), some (.int (nI l)), some (.int v3), some (.int (nI n)), some (.int (nI j)), none, none, none, none, none] [] σ' := by
        intro t
        induction t with
        | zero =>
          intro j hj σ' t1 t2
          refine sgX6_read_26 hG _ _ _ _ _ σ' ⟨fun _ => ?_, fun q => absurd ((nIle 61 j rfl rfl (by omega) (by omega)).mpr (by omega)) q⟩
          have hk' : mk σ2 σ' := ⟨fun q _ _ _ _ _ f => t1 q f, fun q _ => by rw [t1 0 (by omega)]⟩
          exact loop n 0 (by omega) (by omega) (fun q hq => absurd hq (Nat.not_lt_zero q)) rfl σ' (hk'.mo hX) (fun q hq => t2 q (by omega))
        | succ t ih =>
          intro j hj σ' t1 t2
          refine sgX6_read_26 hG _ _ _ _ _ σ' ⟨fun q => absurd ((nIle 61 j rfl rfl (by omega) (by omega)).mp q) (by omega), fun _ => ⟨vp_in_nI (by omega) (by decide), vp_in_nI (by omega) (by decide), ?_⟩⟩
          rw [nI_1, nI_clamp (by omega), t1 1 (by omega)]
          refine ih (j + 1) (by omega) _ (fun q hq => by rw [px_up_n hq]; exact t1 q hq) (fun q hq => ?_)
          rw [px_up_at]
          by_cases hqj : q = j
          · rw [if_pos ⟨rfl, hqj⟩, hqj]
          · rw [if_neg (by omega)]; exact t2 q (by omega)
      exact save 61 0 (by omega) σ2 (fun _ _ => rfl) (fun q hq => absurd hq (Nat.not_lt_zero q))
    · unfold qoX6_read x_read
      rw [xif_f (fun q => y q.2.2)]
      exact ⟨rfl, hX⟩
  · unfold qoX6_read x_read
    rw [xif_f (fun q => z ⟨q.1, q.2.1⟩)]
    exact ⟨rfl, hX⟩
theorem mX6_read (g : gtX6_read) : px_Met dM yX6_read (Cond.code yX6_read cX6_read 11 (some .int) :: wdM) rmX6_read px_vI (prX6_read g) (poX6_read g) :=
  px_met (Z := (cX6_read, 11, RX6, Cond.code yX6_read cX6_read 11 (some .int) :: wdM, (some .int), rmX6_read, dM)) opX6_read (by decide) rfl rfl okX6_read (fun As σ h => by obtain ⟨v1, v2, v3, v4, rfl, h⟩ := h; exact Nat.le_of_ble_eq_true rfl) (fun As σ h G hG => by obtain ⟨v1, v2, v3, v4, rfl, h⟩ := h; exact hhX6_read g v1 v2 v3 v4 σ h G hG)
