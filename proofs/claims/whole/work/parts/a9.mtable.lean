/-! the reference's partings -/
theorem RM.ft {M M' A : aM} {m : Int} (h : RM M m A) (f : ∀ a i, ¬ (m + 20 ≤ a ∧ a < m + 25) → ¬ (a = m ∧ 42 ≤ i ∧ i ≤ 45) → M' a i = M a i) : RM M' m A :=
  h.mk9w (fun a i x y z => f a i (by omega) (by omega)) (RP0.cg h.rp0 fun a i x => f a i (by omega) (by omega)) (RCw.cg h.2.2.1 fun i => f _ i (by omega) (by omega))
/-- the names of the reference's variables -/
def nmV (c : Int → Int) (s : Int) (v : Nat) : Int := if v < wN s then v else 10 + setV c s (v - wN s)
theorem nmV_lt {c : Int → Int} {s : Int} (hw : wN s ≤ 5) : ∀ a b : Nat, a < wN s + hN c s → b < wN s + hN c s → (nmV c s a < nmV c s b ↔ a < b) := by
  intro a b ha hb9
  unfold nmV
  by_cases e1 : a < wN s
  · rw [if_pos e1]
    by_cases e2 : b < wN s
    · rw [if_pos e2]; omega
    · rw [if_neg e2]
      have := setV_p (c := c) (s := s) (i := b - wN s) (by omega)
      omega
  · rw [if_neg e1]
    have p1 := setV_p (c := c) (s := s) (i := a - wN s) (by omega)
    by_cases e2 : b < wN s
    · rw [if_pos e2]; omega
    · rw [if_neg e2]
      have q := fun (i j : Nat) (hij : i < j) (hj : j < hN c s) => pkS_mono (p := isR c s) (s.toNat + 1) i j hij hj
      by_cases h : a < b
      · have := q (a - wN s) (b - wN s) (by omega) (by omega)
        unfold setV
        omega
      · by_cases h2 : a = b
        · subst h2; omega
        · have := q (b - wN s) (a - wN s) (by omega) (by omega)
          unfold setV
          omega
/-- the states aim by aim -/
def slS (w h : Nat) (F : Nat → Nat → Int) (Zs : Nat → Nat → Int) (st : sx) (fx : Nat → Bool) : Nat → sx × (Nat → Bool)
  | 0 => (st, fx)
  | q + 1 => (sxD w h F (Zs q) (slS w h F Zs st fx q).2 (slS w h F Zs st fx q).1, fxN w F (sxD w h F (Zs q) (slS w h F Zs st fx q).2 (slS w h F Zs st fx q).1) (Zs q) (slS w h F Zs st fx q).2)
theorem slS_ok {w h : Nat} {F : Nat → Nat → Int} {Zs : Nat → Nat → Int} {st : sx} {fx : Nat → Bool} (hP : PBx w h F 1048576) (hw : w ≤ 5) (hh : h ≤ 31) (hO : OKx w h F st) : ∀ q, OKx w h F (slS w h F Zs st fx q).1
  | 0 => hO
  | q + 1 => by
    obtain ⟨n, -, -, h1, -⟩ := sx_end (Z := Zs q) (fx := (slS w h F Zs st fx q).2) hP hw hh (slS_ok hP hw hh hO q)
    exact h1
theorem dX12_table_0 : decode cX12_table 0 = .ok (.aload_n 0, 1) := by decide +kernel
theorem dX12_table_1 : decode cX12_table 1 = .ok (.iconst 0, 1) := by decide +kernel
theorem dX12_table_2 : decode cX12_table 2 = .ok (.putfield 358, 3) := by decide +kernel
theorem dX12_table_5 : decode cX12_table 5 = .ok (.iconst 0, 1) := by decide +kernel
theorem dX12_table_6 : decode cX12_table 6 = .ok (.istore_n 2, 1) := by decide +kernel
theorem dX12_table_7 : decode cX12_table 7 = .ok (.iload_n 2, 1) := by decide +kernel
theorem dX12_table_8 : decode cX12_table 8 = .ok (.bipush 7, 2) := by decide +kernel
theorem dX12_table_10 : decode cX12_table 10 = .ok (.if_icmp .ge 40, 3) := by decide +kernel
theorem dX12_table_13 : decode cX12_table 13 = .ok (.iload_n 1, 1) := by decide +kernel
theorem dX12_table_14 : decode cX12_table 14 = .ok (.iload_n 2, 1) := by decide +kernel
theorem dX12_table_15 : decode cX12_table 15 = .ok (.invokestatic 136, 3) := by decide +kernel
theorem dX12_table_18 : decode cX12_table 18 = .ok (.ifCond .ne 6, 3) := by decide +kernel
theorem dX12_table_21 : decode cX12_table 21 = .ok (.goto 23, 3) := by decide +kernel
theorem dX12_table_24 : decode cX12_table 24 = .ok (.aload_n 0, 1) := by decide +kernel
theorem dX12_table_25 : decode cX12_table 25 = .ok (.getfield 76, 3) := by decide +kernel
theorem dX12_table_28 : decode cX12_table 28 = .ok (.aload_n 0, 1) := by decide +kernel
theorem dX12_table_29 : decode cX12_table 29 = .ok (.getfield 358, 3) := by decide +kernel
theorem dX12_table_32 : decode cX12_table 32 = .ok (.iload_n 2, 1) := by decide +kernel
theorem dX12_table_33 : decode cX12_table 33 = .ok (.iastore, 1) := by decide +kernel
theorem dX12_table_34 : decode cX12_table 34 = .ok (.aload_n 0, 1) := by decide +kernel
theorem dX12_table_35 : decode cX12_table 35 = .ok (.dup, 1) := by decide +kernel
theorem dX12_table_36 : decode cX12_table 36 = .ok (.getfield 358, 3) := by decide +kernel
theorem dX12_table_39 : decode cX12_table 39 = .ok (.iconst 1, 1) := by decide +kernel
theorem dX12_table_40 : decode cX12_table 40 = .ok (.iadd, 1) := by decide +kernel
theorem dX12_table_41 : decode cX12_table 41 = .ok (.putfield 358, 3) := by decide +kernel
theorem dX12_table_44 : decode cX12_table 44 = .ok (.iinc 2 1, 3) := by decide +kernel
theorem dX12_table_47 : decode cX12_table 47 = .ok (.goto (-40), 3) := by decide +kernel
theorem dX12_table_50 : decode cX12_table 50 = .ok (.aload_n 0, 1) := by decide +kernel
theorem dX12_table_51 : decode cX12_table 51 = .ok (.iconst 0, 1) := by decide +kernel
theorem dX12_table_52 : decode cX12_table 52 = .ok (.putfield 361, 3) := by decide +kernel
theorem dX12_table_55 : decode cX12_table 55 = .ok (.aload_n 0, 1) := by decide +kernel
theorem dX12_table_56 : decode cX12_table 56 = .ok (.lconst 1, 1) := by decide +kernel
theorem dX12_table_57 : decode cX12_table 57 = .ok (.putfield 364, 3) := by decide +kernel
theorem dX12_table_60 : decode cX12_table 60 = .ok (.iconst 1, 1) := by decide +kernel
theorem dX12_table_61 : decode cX12_table 61 = .ok (.istore_n 2, 1) := by decide +kernel
theorem dX12_table_62 : decode cX12_table 62 = .ok (.iload_n 2, 1) := by decide +kernel
theorem dX12_table_63 : decode cX12_table 63 = .ok (.iload_n 1, 1) := by decide +kernel
theorem dX12_table_64 : decode cX12_table 64 = .ok (.if_icmp .gt 120, 3) := by decide +kernel
theorem dX12_table_67 : decode cX12_table 67 = .ok (.iload_n 2, 1) := by decide +kernel
theorem dX12_table_68 : decode cX12_table 68 = .ok (.iload_n 1, 1) := by decide +kernel
theorem dX12_table_69 : decode cX12_table 69 = .ok (.iconst (-1), 1) := by decide +kernel
theorem dX12_table_70 : decode cX12_table 70 = .ok (.ixor, 1) := by decide +kernel
theorem dX12_table_71 : decode cX12_table 71 = .ok (.iand, 1) := by decide +kernel
theorem dX12_table_72 : decode cX12_table 72 = .ok (.ifCond .ne 106, 3) := by decide +kernel
theorem dX12_table_75 : decode cX12_table 75 = .ok (.aload_n 0, 1) := by decide +kernel
theorem dX12_table_76 : decode cX12_table 76 = .ok (.iload_n 2, 1) := by decide +kernel
theorem dX12_table_77 : decode cX12_table 77 = .ok (.invokevirtual 307, 3) := by decide +kernel
theorem dX12_table_80 : decode cX12_table 80 = .ok (.iconst (-1), 1) := by decide +kernel
theorem dX12_table_81 : decode cX12_table 81 = .ok (.if_icmp .ne 6, 3) := by decide +kernel
theorem dX12_table_84 : decode cX12_table 84 = .ok (.goto 94, 3) := by decide +kernel
theorem dX12_table_87 : decode cX12_table 87 = .ok (.iconst 0, 1) := by decide +kernel
theorem dX12_table_88 : decode cX12_table 88 = .ok (.istore_n 3, 1) := by decide +kernel
theorem dX12_table_89 : decode cX12_table 89 = .ok (.iload_n 3, 1) := by decide +kernel
theorem dX12_table_90 : decode cX12_table 90 = .ok (.aload_n 0, 1) := by decide +kernel
theorem dX12_table_91 : decode cX12_table 91 = .ok (.getfield 358, 3) := by decide +kernel
theorem dX12_table_94 : decode cX12_table 94 = .ok (.if_icmp .ge 41, 3) := by decide +kernel
theorem dX12_table_97 : decode cX12_table 97 = .ok (.aload_n 0, 1) := by decide +kernel
theorem dX12_table_98 : decode cX12_table 98 = .ok (.getfield 73, 3) := by decide +kernel
theorem dX12_table_101 : decode cX12_table 101 = .ok (.bipush 6, 2) := by decide +kernel
theorem dX12_table_103 : decode cX12_table 103 = .ok (.aload_n 0, 1) := by decide +kernel
theorem dX12_table_104 : decode cX12_table 104 = .ok (.getfield 361, 3) := by decide +kernel
theorem dX12_table_107 : decode cX12_table 107 = .ok (.imul, 1) := by decide +kernel
theorem dX12_table_108 : decode cX12_table 108 = .ok (.iload_n 3, 1) := by decide +kernel
theorem dX12_table_109 : decode cX12_table 109 = .ok (.iadd, 1) := by decide +kernel
theorem dX12_table_110 : decode cX12_table 110 = .ok (.iload_n 2, 1) := by decide +kernel
theorem dX12_table_111 : decode cX12_table 111 = .ok (.aload_n 0, 1) := by decide +kernel
theorem dX12_table_112 : decode cX12_table 112 = .ok (.getfield 76, 3) := by decide +kernel
theorem dX12_table_115 : decode cX12_table 115 = .ok (.iload_n 3, 1) := by decide +kernel
theorem dX12_table_116 : decode cX12_table 116 = .ok (.iaload, 1) := by decide +kernel
theorem dX12_table_117 : decode cX12_table 117 = .ok (.invokestatic 136, 3) := by decide +kernel
theorem dX12_table_120 : decode cX12_table 120 = .ok (.ifCond .eq 7, 3) := by decide +kernel
theorem dX12_table_123 : decode cX12_table 123 = .ok (.lconst 1, 1) := by decide +kernel
theorem dX12_table_124 : decode cX12_table 124 = .ok (.goto 4, 3) := by decide +kernel
theorem dX12_table_127 : decode cX12_table 127 = .ok (.lconst 0, 1) := by decide +kernel
theorem dX12_table_128 : decode cX12_table 128 = .ok (.lastore, 1) := by decide +kernel
theorem dX12_table_129 : decode cX12_table 129 = .ok (.iinc 3 1, 3) := by decide +kernel
theorem dX12_table_132 : decode cX12_table 132 = .ok (.goto (-43), 3) := by decide +kernel
theorem dX12_table_135 : decode cX12_table 135 = .ok (.aload_n 0, 1) := by decide +kernel
theorem dX12_table_136 : decode cX12_table 136 = .ok (.getfield 73, 3) := by decide +kernel
theorem dX12_table_139 : decode cX12_table 139 = .ok (.bipush 6, 2) := by decide +kernel
theorem dX12_table_141 : decode cX12_table 141 = .ok (.aload_n 0, 1) := by decide +kernel
theorem dX12_table_142 : decode cX12_table 142 = .ok (.getfield 361, 3) := by decide +kernel
theorem dX12_table_145 : decode cX12_table 145 = .ok (.imul, 1) := by decide +kernel
theorem dX12_table_146 : decode cX12_table 146 = .ok (.iconst 5, 1) := by decide +kernel
theorem dX12_table_147 : decode cX12_table 147 = .ok (.iadd, 1) := by decide +kernel
theorem dX12_table_148 : decode cX12_table 148 = .ok (.aload_n 0, 1) := by decide +kernel
theorem dX12_table_149 : decode cX12_table 149 = .ok (.iload_n 2, 1) := by decide +kernel
theorem dX12_table_150 : decode cX12_table 150 = .ok (.invokevirtual 307, 3) := by decide +kernel
theorem dX12_table_153 : decode cX12_table 153 = .ok (.i2l, 1) := by decide +kernel
theorem dX12_table_154 : decode cX12_table 154 = .ok (.lastore, 1) := by decide +kernel
theorem dX12_table_155 : decode cX12_table 155 = .ok (.aload_n 0, 1) := by decide +kernel
theorem dX12_table_156 : decode cX12_table 156 = .ok (.getfield 79, 3) := by decide +kernel
theorem dX12_table_159 : decode cX12_table 159 = .ok (.aload_n 0, 1) := by decide +kernel
theorem dX12_table_160 : decode cX12_table 160 = .ok (.getfield 361, 3) := by decide +kernel
theorem dX12_table_163 : decode cX12_table 163 = .ok (.bipush 10, 2) := by decide +kernel
theorem dX12_table_165 : decode cX12_table 165 = .ok (.iload_n 2, 1) := by decide +kernel
theorem dX12_table_166 : decode cX12_table 166 = .ok (.iadd, 1) := by decide +kernel
theorem dX12_table_167 : decode cX12_table 167 = .ok (.iastore, 1) := by decide +kernel
theorem dX12_table_168 : decode cX12_table 168 = .ok (.aload_n 0, 1) := by decide +kernel
theorem dX12_table_169 : decode cX12_table 169 = .ok (.dup, 1) := by decide +kernel
theorem dX12_table_170 : decode cX12_table 170 = .ok (.getfield 361, 3) := by decide +kernel
theorem dX12_table_173 : decode cX12_table 173 = .ok (.iconst 1, 1) := by decide +kernel
theorem dX12_table_174 : decode cX12_table 174 = .ok (.iadd, 1) := by decide +kernel
theorem dX12_table_175 : decode cX12_table 175 = .ok (.putfield 361, 3) := by decide +kernel
theorem dX12_table_178 : decode cX12_table 178 = .ok (.iinc 2 1, 3) := by decide +kernel
theorem dX12_table_181 : decode cX12_table 181 = .ok (.goto (-119), 3) := by decide +kernel
theorem dX12_table_184 : decode cX12_table 184 = .ok (.iconst 0, 1) := by decide +kernel
theorem dX12_table_185 : decode cX12_table 185 = .ok (.istore_n 2, 1) := by decide +kernel
theorem dX12_table_186 : decode cX12_table 186 = .ok (.iload_n 2, 1) := by decide +kernel
theorem dX12_table_187 : decode cX12_table 187 = .ok (.iconst 5, 1) := by decide +kernel
theorem dX12_table_188 : decode cX12_table 188 = .ok (.if_icmp .ge 23, 3) := by decide +kernel
theorem dX12_table_191 : decode cX12_table 191 = .ok (.aload_n 0, 1) := by decide +kernel
theorem dX12_table_192 : decode cX12_table 192 = .ok (.getfield 82, 3) := by decide +kernel
theorem dX12_table_195 : decode cX12_table 195 = .ok (.iload_n 2, 1) := by decide +kernel
theorem dX12_table_196 : decode cX12_table 196 = .ok (.iload_n 2, 1) := by decide +kernel
theorem dX12_table_197 : decode cX12_table 197 = .ok (.iastore, 1) := by decide +kernel
theorem dX12_table_198 : decode cX12_table 198 = .ok (.aload_n 0, 1) := by decide +kernel
theorem dX12_table_199 : decode cX12_table 199 = .ok (.getfield 85, 3) := by decide +kernel
theorem dX12_table_202 : decode cX12_table 202 = .ok (.iload_n 2, 1) := by decide +kernel
theorem dX12_table_203 : decode cX12_table 203 = .ok (.iconst 0, 1) := by decide +kernel
theorem dX12_table_204 : decode cX12_table 204 = .ok (.bastore, 1) := by decide +kernel
theorem dX12_table_205 : decode cX12_table 205 = .ok (.iinc 2 1, 3) := by decide +kernel
theorem dX12_table_208 : decode cX12_table 208 = .ok (.goto (-22), 3) := by decide +kernel
theorem dX12_table_211 : decode cX12_table 211 = .ok (.aload_n 0, 1) := by decide +kernel
theorem dX12_table_212 : decode cX12_table 212 = .ok (.iconst 0, 1) := by decide +kernel
theorem dX12_table_213 : decode cX12_table 213 = .ok (.putfield 367, 3) := by decide +kernel
theorem dX12_table_216 : decode cX12_table 216 = .ok (.aload_n 0, 1) := by decide +kernel
theorem dX12_table_217 : decode cX12_table 217 = .ok (.iconst (-1), 1) := by decide +kernel
theorem dX12_table_218 : decode cX12_table 218 = .ok (.iconst 1, 1) := by decide +kernel
theorem dX12_table_219 : decode cX12_table 219 = .ok (.invokevirtual 370, 3) := by decide +kernel
theorem dX12_table_222 : decode cX12_table 222 = .ok (.return_, 1) := by decide +kernel
theorem dX12_can_0 : decode cX12_can 0 = .ok (.aload_n 0, 1) := by decide +kernel
theorem dX12_can_1 : decode cX12_can 1 = .ok (.iconst 0, 1) := by decide +kernel
theorem dX12_can_2 : decode cX12_can 2 = .ok (.putfield 103, 3) := by decide +kernel
theorem dX12_can_5 : decode cX12_can 5 = .ok (.aload_n 0, 1) := by decide +kernel
theorem dX12_can_6 : decode cX12_can 6 = .ok (.iload_n 1, 1) := by decide +kernel
theorem dX12_can_7 : decode cX12_can 7 = .ok (.invokevirtual 383, 3) := by decide +kernel
theorem dX12_can_10 : decode cX12_can 10 = .ok (.ifCond .ne 9, 3) := by decide +kernel
theorem dX12_can_13 : decode cX12_can 13 = .ok (.aload_n 0, 1) := by decide +kernel
theorem dX12_can_14 : decode cX12_can 14 = .ok (.iconst 1, 1) := by decide +kernel
theorem dX12_can_15 : decode cX12_can 15 = .ok (.invokevirtual 133, 3) := by decide +kernel
theorem dX12_can_18 : decode cX12_can 18 = .ok (.ireturn, 1) := by decide +kernel
theorem dX12_can_19 : decode cX12_can 19 = .ok (.aload_n 0, 1) := by decide +kernel
theorem dX12_can_20 : decode cX12_can 20 = .ok (.iload_n 1, 1) := by decide +kernel
theorem dX12_can_21 : decode cX12_can 21 = .ok (.invokevirtual 328, 3) := by decide +kernel
theorem dX12_can_24 : decode cX12_can 24 = .ok (.istore_n 2, 1) := by decide +kernel
theorem dX12_can_25 : decode cX12_can 25 = .ok (.iload_n 2, 1) := by decide +kernel
theorem dX12_can_26 : decode cX12_can 26 = .ok (.iconst (-1), 1) := by decide +kernel
theorem dX12_can_27 : decode cX12_can 27 = .ok (.if_icmp .ne 9, 3) := by decide +kernel
theorem dX12_can_30 : decode cX12_can 30 = .ok (.aload_n 0, 1) := by decide +kernel
theorem dX12_can_31 : decode cX12_can 31 = .ok (.iconst 2, 1) := by decide +kernel
theorem dX12_can_32 : decode cX12_can 32 = .ok (.invokevirtual 133, 3) := by decide +kernel
theorem dX12_can_35 : decode cX12_can 35 = .ok (.ireturn, 1) := by decide +kernel
theorem dX12_can_36 : decode cX12_can 36 = .ok (.aload_n 0, 1) := by decide +kernel
theorem dX12_can_37 : decode cX12_can 37 = .ok (.iload_n 1, 1) := by decide +kernel
theorem dX12_can_38 : decode cX12_can 38 = .ok (.invokevirtual 386, 3) := by decide +kernel
theorem dX12_can_41 : decode cX12_can 41 = .ok (.aload_n 0, 1) := by decide +kernel
theorem dX12_can_42 : decode cX12_can 42 = .ok (.invokevirtual 388, 3) := by decide +kernel
theorem dX12_can_45 : decode cX12_can 45 = .ok (.lstore_n 3, 1) := by decide +kernel
theorem dX12_can_46 : decode cX12_can 46 = .ok (.aload_n 0, 1) := by decide +kernel
theorem dX12_can_47 : decode cX12_can 47 = .ok (.iload_n 2, 1) := by decide +kernel
theorem dX12_can_48 : decode cX12_can 48 = .ok (.i2l, 1) := by decide +kernel
theorem dX12_can_49 : decode cX12_can 49 = .ok (.aload_n 0, 1) := by decide +kernel
theorem dX12_can_50 : decode cX12_can 50 = .ok (.getfield 364, 3) := by decide +kernel
theorem dX12_can_53 : decode cX12_can 53 = .ok (.lmul, 1) := by decide +kernel
theorem dX12_can_54 : decode cX12_can 54 = .ok (.lload_n 3, 1) := by decide +kernel
theorem dX12_can_55 : decode cX12_can 55 = .ok (.lsub, 1) := by decide +kernel
theorem dX12_can_56 : decode cX12_can 56 = .ok (.aload_n 0, 1) := by decide +kernel
theorem dX12_can_57 : decode cX12_can 57 = .ok (.getfield 364, 3) := by decide +kernel
theorem dX12_can_60 : decode cX12_can 60 = .ok (.invokevirtual 392, 3) := by decide +kernel
theorem dX12_can_63 : decode cX12_can 63 = .ok (.aload_n 0, 1) := by decide +kernel
theorem dX12_can_64 : decode cX12_can 64 = .ok (.getfield 339, 3) := by decide +kernel
theorem dX12_can_67 : decode cX12_can 67 = .ok (.lconst 0, 1) := by decide +kernel
theorem dX12_can_68 : decode cX12_can 68 = .ok (.lcmp, 1) := by decide +kernel
theorem dX12_can_69 : decode cX12_can 69 = .ok (.ifCond .ne 7, 3) := by decide +kernel
theorem dX12_can_72 : decode cX12_can 72 = .ok (.iconst 1, 1) := by decide +kernel
theorem dX12_can_73 : decode cX12_can 73 = .ok (.goto 4, 3) := by decide +kernel
theorem dX12_can_76 : decode cX12_can 76 = .ok (.iconst 0, 1) := by decide +kernel
theorem dX12_can_77 : decode cX12_can 77 = .ok (.ireturn, 1) := by decide +kernel
theorem dX12_holdsSome_0 : decode cX12_holdsSome 0 = .ok (.aload_n 0, 1) := by decide +kernel
theorem dX12_holdsSome_1 : decode cX12_holdsSome 1 = .ok (.iload_n 1, 1) := by decide +kernel
theorem dX12_holdsSome_2 : decode cX12_holdsSome 2 = .ok (.invokevirtual 328, 3) := by decide +kernel
theorem dX12_holdsSome_5 : decode cX12_holdsSome 5 = .ok (.istore_n 2, 1) := by decide +kernel
theorem dX12_holdsSome_6 : decode cX12_holdsSome 6 = .ok (.iload_n 2, 1) := by decide +kernel
theorem dX12_holdsSome_7 : decode cX12_holdsSome 7 = .ok (.iconst (-1), 1) := by decide +kernel
theorem dX12_holdsSome_8 : decode cX12_holdsSome 8 = .ok (.if_icmp .ne 5, 3) := by decide +kernel
theorem dX12_holdsSome_11 : decode cX12_holdsSome 11 = .ok (.iconst 0, 1) := by decide +kernel
theorem dX12_holdsSome_12 : decode cX12_holdsSome 12 = .ok (.ireturn, 1) := by decide +kernel
theorem dX12_holdsSome_13 : decode cX12_holdsSome 13 = .ok (.aload_n 0, 1) := by decide +kernel
theorem dX12_holdsSome_14 : decode cX12_holdsSome 14 = .ok (.iload_n 1, 1) := by decide +kernel
theorem dX12_holdsSome_15 : decode cX12_holdsSome 15 = .ok (.invokevirtual 386, 3) := by decide +kernel
theorem dX12_holdsSome_18 : decode cX12_holdsSome 18 = .ok (.aload_n 0, 1) := by decide +kernel
theorem dX12_holdsSome_19 : decode cX12_holdsSome 19 = .ok (.invokevirtual 388, 3) := by decide +kernel
theorem dX12_holdsSome_22 : decode cX12_holdsSome 22 = .ok (.iload_n 2, 1) := by decide +kernel
theorem dX12_holdsSome_23 : decode cX12_holdsSome 23 = .ok (.i2l, 1) := by decide +kernel
theorem dX12_holdsSome_24 : decode cX12_holdsSome 24 = .ok (.aload_n 0, 1) := by decide +kernel
theorem dX12_holdsSome_25 : decode cX12_holdsSome 25 = .ok (.getfield 364, 3) := by decide +kernel
theorem dX12_holdsSome_28 : decode cX12_holdsSome 28 = .ok (.lmul, 1) := by decide +kernel
theorem dX12_holdsSome_29 : decode cX12_holdsSome 29 = .ok (.lcmp, 1) := by decide +kernel
theorem dX12_holdsSome_30 : decode cX12_holdsSome 30 = .ok (.ifCond .ne 7, 3) := by decide +kernel
theorem dX12_holdsSome_33 : decode cX12_holdsSome 33 = .ok (.iconst 1, 1) := by decide +kernel
theorem dX12_holdsSome_34 : decode cX12_holdsSome 34 = .ok (.goto 4, 3) := by decide +kernel
theorem dX12_holdsSome_37 : decode cX12_holdsSome 37 = .ok (.iconst 0, 1) := by decide +kernel
theorem dX12_holdsSome_38 : decode cX12_holdsSome 38 = .ok (.ireturn, 1) := by decide +kernel
theorem dX12_columnOf_0 : decode cX12_columnOf 0 = .ok (.iconst 0, 1) := by decide +kernel
theorem dX12_columnOf_1 : decode cX12_columnOf 1 = .ok (.istore_n 2, 1) := by decide +kernel
theorem dX12_columnOf_2 : decode cX12_columnOf 2 = .ok (.aload_n 0, 1) := by decide +kernel
theorem dX12_columnOf_3 : decode cX12_columnOf 3 = .ok (.getfield 76, 3) := by decide +kernel
theorem dX12_columnOf_6 : decode cX12_columnOf 6 = .ok (.iload_n 2, 1) := by decide +kernel
theorem dX12_columnOf_7 : decode cX12_columnOf 7 = .ok (.iaload, 1) := by decide +kernel
theorem dX12_columnOf_8 : decode cX12_columnOf 8 = .ok (.iload_n 1, 1) := by decide +kernel
theorem dX12_columnOf_9 : decode cX12_columnOf 9 = .ok (.if_icmp .eq 9, 3) := by decide +kernel
theorem dX12_columnOf_12 : decode cX12_columnOf 12 = .ok (.iinc 2 1, 3) := by decide +kernel
theorem dX12_columnOf_15 : decode cX12_columnOf 15 = .ok (.goto (-13), 3) := by decide +kernel
theorem dX12_columnOf_18 : decode cX12_columnOf 18 = .ok (.iload_n 2, 1) := by decide +kernel
theorem dX12_columnOf_19 : decode cX12_columnOf 19 = .ok (.ireturn, 1) := by decide +kernel
theorem dX12_share_0 : decode cX12_share 0 = .ok (.aload_n 0, 1) := by decide +kernel
theorem dX12_share_1 : decode cX12_share 1 = .ok (.aload_n 0, 1) := by decide +kernel
theorem dX12_share_2 : decode cX12_share 2 = .ok (.iload_n 1, 1) := by decide +kernel
theorem dX12_share_3 : decode cX12_share 3 = .ok (.invokevirtual 383, 3) := by decide +kernel
theorem dX12_share_6 : decode cX12_share 6 = .ok (.ifCond .eq 12, 3) := by decide +kernel
theorem dX12_share_9 : decode cX12_share 9 = .ok (.aload_n 0, 1) := by decide +kernel
theorem dX12_share_10 : decode cX12_share 10 = .ok (.iload_n 1, 1) := by decide +kernel
theorem dX12_share_11 : decode cX12_share 11 = .ok (.iload_n 2, 1) := by decide +kernel
theorem dX12_share_12 : decode cX12_share 12 = .ok (.invokevirtual 396, 3) := by decide +kernel
theorem dX12_share_15 : decode cX12_share 15 = .ok (.ifCond .ne 7, 3) := by decide +kernel
theorem dX12_share_18 : decode cX12_share 18 = .ok (.iconst 1, 1) := by decide +kernel
theorem dX12_share_19 : decode cX12_share 19 = .ok (.goto 16, 3) := by decide +kernel
theorem dX12_share_22 : decode cX12_share 22 = .ok (.aload_n 0, 1) := by decide +kernel
theorem dX12_share_23 : decode cX12_share 23 = .ok (.iload_n 1, 1) := by decide +kernel
theorem dX12_share_24 : decode cX12_share 24 = .ok (.invokevirtual 399, 3) := by decide +kernel
theorem dX12_share_27 : decode cX12_share 27 = .ok (.ifCond .ne 7, 3) := by decide +kernel
theorem dX12_share_30 : decode cX12_share 30 = .ok (.iconst 2, 1) := by decide +kernel
theorem dX12_share_31 : decode cX12_share 31 = .ok (.goto 4, 3) := by decide +kernel
theorem dX12_share_34 : decode cX12_share 34 = .ok (.iconst 0, 1) := by decide +kernel
theorem dX12_share_35 : decode cX12_share 35 = .ok (.putfield 103, 3) := by decide +kernel
theorem dX12_share_38 : decode cX12_share 38 = .ok (.aload_n 0, 1) := by decide +kernel
theorem dX12_share_39 : decode cX12_share 39 = .ok (.getfield 103, 3) := by decide +kernel
theorem dX12_share_42 : decode cX12_share 42 = .ok (.ifCond .le 4, 3) := by decide +kernel
theorem dX12_share_45 : decode cX12_share 45 = .ok (.return_, 1) := by decide +kernel
theorem dX12_share_46 : decode cX12_share 46 = .ok (.aload_n 0, 1) := by decide +kernel
theorem dX12_share_47 : decode cX12_share 47 = .ok (.iload_n 1, 1) := by decide +kernel
theorem dX12_share_48 : decode cX12_share 48 = .ok (.invokevirtual 386, 3) := by decide +kernel
theorem dX12_share_51 : decode cX12_share 51 = .ok (.aload_n 0, 1) := by decide +kernel
theorem dX12_share_52 : decode cX12_share 52 = .ok (.aload_n 0, 1) := by decide +kernel
theorem dX12_share_53 : decode cX12_share 53 = .ok (.iload_n 2, 1) := by decide +kernel
theorem dX12_share_54 : decode cX12_share 54 = .ok (.invokevirtual 402, 3) := by decide +kernel
theorem dX12_share_57 : decode cX12_share 57 = .ok (.iload_n 3, 1) := by decide +kernel
theorem dX12_share_58 : decode cX12_share 58 = .ok (.ifCond .eq 7, 3) := by decide +kernel
theorem dX12_share_61 : decode cX12_share 61 = .ok (.iconst 1, 1) := by decide +kernel
theorem dX12_share_62 : decode cX12_share 62 = .ok (.goto 4, 3) := by decide +kernel
theorem dX12_share_65 : decode cX12_share 65 = .ok (.iconst (-1), 1) := by decide +kernel
theorem dX12_share_66 : decode cX12_share 66 = .ok (.invokevirtual 370, 3) := by decide +kernel
theorem dX12_share_69 : decode cX12_share 69 = .ok (.aload_n 0, 1) := by decide +kernel
theorem dX12_share_70 : decode cX12_share 70 = .ok (.invokevirtual 388, 3) := by decide +kernel
theorem dX12_share_73 : decode cX12_share 73 = .ok (.lstore 4, 2) := by decide +kernel
theorem dX12_share_75 : decode cX12_share 75 = .ok (.aload_n 0, 1) := by decide +kernel
theorem dX12_share_76 : decode cX12_share 76 = .ok (.iload_n 3, 1) := by decide +kernel
theorem dX12_share_77 : decode cX12_share 77 = .ok (.ifCond .eq 8, 3) := by decide +kernel
theorem dX12_share_80 : decode cX12_share 80 = .ok (.lload 4, 2) := by decide +kernel
theorem dX12_share_82 : decode cX12_share 82 = .ok (.goto 6, 3) := by decide +kernel
theorem dX12_share_85 : decode cX12_share 85 = .ok (.lload 4, 2) := by decide +kernel
theorem dX12_share_87 : decode cX12_share 87 = .ok (.lneg, 1) := by decide +kernel
theorem dX12_share_88 : decode cX12_share 88 = .ok (.aload_n 0, 1) := by decide +kernel
theorem dX12_share_89 : decode cX12_share 89 = .ok (.getfield 364, 3) := by decide +kernel
theorem dX12_share_92 : decode cX12_share 92 = .ok (.invokevirtual 392, 3) := by decide +kernel
theorem dX12_share_95 : decode cX12_share 95 = .ok (.return_, 1) := by decide +kernel
theorem dX12_row_0 : decode cX12_row 0 = .ok (.aload_n 0, 1) := by decide +kernel
theorem dX12_row_1 : decode cX12_row 1 = .ok (.aload_n 0, 1) := by decide +kernel
theorem dX12_row_2 : decode cX12_row 2 = .ok (.iload_n 1, 1) := by decide +kernel
theorem dX12_row_3 : decode cX12_row 3 = .ok (.invokevirtual 383, 3) := by decide +kernel
theorem dX12_row_6 : decode cX12_row 6 = .ok (.ifCond .eq 12, 3) := by decide +kernel
theorem dX12_row_9 : decode cX12_row 9 = .ok (.aload_n 0, 1) := by decide +kernel
theorem dX12_row_10 : decode cX12_row 10 = .ok (.iload_n 1, 1) := by decide +kernel
theorem dX12_row_11 : decode cX12_row 11 = .ok (.iload_n 2, 1) := by decide +kernel
theorem dX12_row_12 : decode cX12_row 12 = .ok (.invokevirtual 396, 3) := by decide +kernel
theorem dX12_row_15 : decode cX12_row 15 = .ok (.ifCond .ne 7, 3) := by decide +kernel
theorem dX12_row_18 : decode cX12_row 18 = .ok (.iconst 1, 1) := by decide +kernel
theorem dX12_row_19 : decode cX12_row 19 = .ok (.goto 16, 3) := by decide +kernel
theorem dX12_row_22 : decode cX12_row 22 = .ok (.aload_n 0, 1) := by decide +kernel
theorem dX12_row_23 : decode cX12_row 23 = .ok (.iload_n 1, 1) := by decide +kernel
theorem dX12_row_24 : decode cX12_row 24 = .ok (.invokevirtual 399, 3) := by decide +kernel
theorem dX12_row_27 : decode cX12_row 27 = .ok (.ifCond .ne 7, 3) := by decide +kernel
theorem dX12_row_30 : decode cX12_row 30 = .ok (.iconst 2, 1) := by decide +kernel
theorem dX12_row_31 : decode cX12_row 31 = .ok (.goto 4, 3) := by decide +kernel
theorem dX12_row_34 : decode cX12_row 34 = .ok (.iconst 0, 1) := by decide +kernel
theorem dX12_row_35 : decode cX12_row 35 = .ok (.putfield 103, 3) := by decide +kernel
theorem dX12_row_38 : decode cX12_row 38 = .ok (.aload_n 0, 1) := by decide +kernel
theorem dX12_row_39 : decode cX12_row 39 = .ok (.getfield 103, 3) := by decide +kernel
theorem dX12_row_42 : decode cX12_row 42 = .ok (.ifCond .le 4, 3) := by decide +kernel
theorem dX12_row_45 : decode cX12_row 45 = .ok (.return_, 1) := by decide +kernel
theorem dX12_row_46 : decode cX12_row 46 = .ok (.aload_n 0, 1) := by decide +kernel
theorem dX12_row_47 : decode cX12_row 47 = .ok (.iload_n 1, 1) := by decide +kernel
theorem dX12_row_48 : decode cX12_row 48 = .ok (.invokevirtual 386, 3) := by decide +kernel
theorem dX12_row_51 : decode cX12_row 51 = .ok (.iconst 0, 1) := by decide +kernel
theorem dX12_row_52 : decode cX12_row 52 = .ok (.istore_n 3, 1) := by decide +kernel
theorem dX12_row_53 : decode cX12_row 53 = .ok (.iload_n 3, 1) := by decide +kernel
theorem dX12_row_54 : decode cX12_row 54 = .ok (.aload_n 0, 1) := by decide +kernel
theorem dX12_row_55 : decode cX12_row 55 = .ok (.iload_n 2, 1) := by decide +kernel
theorem dX12_row_56 : decode cX12_row 56 = .ok (.invokevirtual 402, 3) := by decide +kernel
theorem dX12_row_59 : decode cX12_row 59 = .ok (.if_icmp .gt 15, 3) := by decide +kernel
theorem dX12_row_62 : decode cX12_row 62 = .ok (.aload_n 0, 1) := by decide +kernel
theorem dX12_row_63 : decode cX12_row 63 = .ok (.iload_n 3, 1) := by decide +kernel
theorem dX12_row_64 : decode cX12_row 64 = .ok (.iconst (-1), 1) := by decide +kernel
theorem dX12_row_65 : decode cX12_row 65 = .ok (.invokevirtual 370, 3) := by decide +kernel
theorem dX12_row_68 : decode cX12_row 68 = .ok (.iinc 3 1, 3) := by decide +kernel
theorem dX12_row_71 : decode cX12_row 71 = .ok (.goto (-18), 3) := by decide +kernel
theorem dX12_row_74 : decode cX12_row 74 = .ok (.aload_n 0, 1) := by decide +kernel
theorem dX12_row_75 : decode cX12_row 75 = .ok (.aload_n 0, 1) := by decide +kernel
theorem dX12_row_76 : decode cX12_row 76 = .ok (.invokevirtual 388, 3) := by decide +kernel
theorem dX12_row_79 : decode cX12_row 79 = .ok (.lneg, 1) := by decide +kernel
theorem dX12_row_80 : decode cX12_row 80 = .ok (.aload_n 0, 1) := by decide +kernel
theorem dX12_row_81 : decode cX12_row 81 = .ok (.getfield 364, 3) := by decide +kernel
theorem dX12_row_84 : decode cX12_row 84 = .ok (.invokevirtual 392, 3) := by decide +kernel
theorem dX12_row_87 : decode cX12_row 87 = .ok (.return_, 1) := by decide +kernel
theorem s_aim {l : Launch} {E : aE} {N : Nat} {S : aS} {M : aM} (hfl : l.stackTraces = false) (m j0 way : Int) (w h q9 : Nat) (hS : lyM S m) (hw : w ≤ 5) (hh : h + q9 < 40) (h42 : M m 42 = w) (h43 : M m 43 = h) (h44 : M m 44 = q9) (hwy : way = 1 ∨ way = -1) : aMt l E pX12_aim [(2, m), (0, j0), (0, way)] N S M (aU N S (fun M' => (∀ c : Nat, c < w → M' (m + 20) (6 * ((h + q9 : Nat) : Int) + c) = if j0 = -1 ∨ j0 = c then - way else 0) ∧ M' (m + 20) (6 * ((h + q9 : Nat) : Int) + 5) = 0 ∧ M' m 44 = q9 + 1 ∧ ∀ a x : Int, ¬ (a = m + 20 ∧ 6 * ((h + q9 : Nat) : Int) ≤ x ∧ x < 6 * ((h + q9 : Nat) : Int) + 6) → ¬ (a = m ∧ x = 44) → M' a x = M a x)) := by
  refine a_met hfl rfl (by decide +kernel) (Nat.le_of_ble_eq_true rfl) ?_
  have loop := a_loop2 (α := Nat) (β := aM) (fun c M1 => c ≤ w ∧ (∀ a x : Int, ¬ (a = m + 20 ∧ 6 * ((h : Int) + (q9 : Int)) ≤ x ∧ x < 6 * ((h : Int) + (q9 : Int)) + 6) → M1 a x = M a x) ∧ ∀ i : Nat, i < c → M1 (m + 20) (6 * ((h : Int) + (q9 : Int)) + i) = if j0 = -1 ∨ j0 = i then - way else 0) (fun c M1 => w - c) (fun c M1 => aX l E pX12_aim (aU N S (fun M' => (∀ c : Nat, c < w → M' (m + 20) (6 * ((h + q9 : Nat) : Int) + c) = if j0 = -1 ∨ j0 = c then - way else 0) ∧ M' (m + 20) (6 * ((h + q9 : Nat) : Int) + 5) = 0 ∧ M' m 44 = q9 + 1 ∧ ∀ a x : Int, ¬ (a = m + 20 ∧ 6 * ((h + q9 : Nat) : Int) ≤ x ∧ x < 6 * ((h + q9 : Nat) : Int) + 6) → ¬ (a = m ∧ x = 44) → M' a x = M a x)) 0 0 N S M1 16 [(0, (2, m)), (1, (0, j0)), (2, (0, way)), (3, (0, 6 * ((h : Int) + (q9 : Int)))), (4, (0, (c : Int)))] []) (by
    intro c M1 hI ih
    obtain ⟨k1, k2, k3⟩ := hI
    refine x_iload (pc := 16) dX12_aim_16 rfl ?_
    refine x_aload_n (pc := 18) dX12_aim_18 rfl rfl ?_
    refine x_getIV (jj := 42) (pc := 19) dX12_aim_19 fX12_358 hS.1 rfl (by decide) rfl (by (repeat (first | rewrite [up_s] | rewrite [up_i (by omega)] | rewrite [up_a (by omega)] | rewrite [stM_a (by omega) (by omega)])); first | exact (k2 _ _ (by omega)).trans h42 | exact (k2 _ _ (by omega)).trans h43 | exact (k2 _ _ (by omega)).trans h44 | rfl) ?_
    refine x_icmp_ge (tgt := 58) (pc := 22) dX12_aim_22 (by decide) (fun c_22 => ?_) (fun c_22 => ?_)
    · refine x_aload_n (pc := 58) dX12_aim_58 rfl rfl ?_
      refine x_getR (jj := 37) (pc := 59) dX12_aim_59 fX12_73 hS.1 rfl (by decide) rfl rM_37 ?_
      refine x_iload_n (pc := 62) dX12_aim_62 rfl rfl ?_
      refine x_iconst (pc := 63) dX12_aim_63 (by decide) ?_
      refine x_iadd (pc := 64) dX12_aim_64 (by omega) ?_
      refine x_lconst0 (pc := 65) dX12_aim_65 ?_
      refine x_lastore (pc := 66) dX12_aim_66 (sM_37 hS) (by omega) ?_
      refine x_aload_n (pc := 67) dX12_aim_67 rfl rfl ?_
      refine x_dup (pc := 68) dX12_aim_68 rfl ?_
      refine x_getIV (jj := 44) (pc := 69) dX12_aim_69 fX12_367 hS.1 rfl (by decide) rfl (by (repeat (first | rewrite [up_s] | rewrite [up_i (by omega)] | rewrite [up_a (by omega)] | rewrite [stM_a (by omega) (by omega)])); first | exact (k2 _ _ (by omega)).trans h42 | exact (k2 _ _ (by omega)).trans h43 | exact (k2 _ _ (by omega)).trans h44 | rfl) ?_
      refine x_iconst (pc := 72) dX12_aim_72 (by decide) ?_
      refine x_iadd (pc := 73) dX12_aim_73 (by omega) ?_
      refine x_putI (jj := 44) (pc := 74) dX12_aim_74 fX12_367 hS.1 rfl (by decide) rfl ?_
      refine x_return (pc := 77) dX12_aim_77 rfl (by decide) ?_
      have eA : (((h + q9 : Nat) : Int)) = (h : Int) + (q9 : Int) := by omega
      refine ⟨rfl, rfl, rfl, fun c1 hc => ?_, ?_, ?_, fun a x q1 q2 => ?_⟩
      · rw [eA, up_a (by omega), up_i (by omega)]; exact k3 c1 (by omega)
      · rw [eA, up_a (by omega), up_s]
      · rw [up_s]
      · rw [eA] at q1
        by_cases e : a = m
        · subst e
          rw [up_i (by omega), up_a (by omega)]; exact k2 _ _ q1
        · rw [up_a e]
          by_cases e2 : a = m + 20
          · subst e2
            rw [up_i (by omega)]; exact k2 _ _ q1
          · rw [up_a e2]; exact k2 _ _ q1
    · refine x_aload_n (pc := 25) dX12_aim_25 rfl rfl ?_
      refine x_getR (jj := 37) (pc := 26) dX12_aim_26 fX12_73 hS.1 rfl (by decide) rfl rM_37 ?_
      refine x_iload_n (pc := 29) dX12_aim_29 rfl rfl ?_
      refine x_iload (pc := 30) dX12_aim_30 rfl ?_
      refine x_iadd (pc := 32) dX12_aim_32 (by omega) ?_
      refine x_iload_n (pc := 33) dX12_aim_33 rfl rfl ?_
      refine x_iconst (pc := 34) dX12_aim_34 (by decide) ?_
      refine x_icmp_eq (tgt := 44) (pc := 35) dX12_aim_35 (by decide) (fun c_35 => ?_) (fun c_35 => ?_)
      · refine x_iload_n (pc := 44) dX12_aim_44 rfl rfl ?_
        refine x_ineg (pc := 45) dX12_aim_45 (by omega) ?_
        refine x_i2l (pc := 46) dX12_aim_46 ?_
        refine x_goto (tgt := 51) (pc := 47) dX12_aim_47 (by decide) ?_
        refine x_lastore (pc := 51) dX12_aim_51 (sM_37 hS) (by omega) ?_
        refine x_iinc (pc := 52) dX12_aim_52 rfl (by omega) (by decide) rfl ?_
        refine x_goto (tgt := 16) (pc := 55) dX12_aim_55 (by decide) ?_
        refine x_lo (lo' := [(0, (2, m)), (1, (0, j0)), (2, (0, way)), (3, (0, 6 * ((h : Int) + (q9 : Int)))), (4, (0, ((c + 1 : Nat) : Int)))]) ⟨rfl, rfl, rfl, rfl, rfl, trivial⟩ (ih (c + 1) _ ⟨by omega, fun a x q => ?_, fun i hi => ?_⟩ (by omega))
        · by_cases e : a = m + 20
          · subst e; rw [up_i (by omega)]; exact k2 _ _ q
          · rw [up_a e]; exact k2 _ _ q
        · by_cases e : i = c
          · subst e; rw [up_s, if_pos (Or.inl (by assumption))]
          · rw [up_i (by omega)]; exact k3 i (by omega)
      · refine x_iload_n (pc := 38) dX12_aim_38 rfl rfl ?_
        refine x_iload (pc := 39) dX12_aim_39 rfl ?_
        refine x_icmp_ne (tgt := 50) (pc := 41) dX12_aim_41 (by decide) (fun c_41 => ?_) (fun c_41 => ?_)
        · refine x_lconst0 (pc := 50) dX12_aim_50 ?_
          refine x_lastore (pc := 51) dX12_aim_51 (sM_37 hS) (by omega) ?_
          refine x_iinc (pc := 52) dX12_aim_52 rfl (by omega) (by decide) rfl ?_
          refine x_goto (tgt := 16) (pc := 55) dX12_aim_55 (by decide) ?_
          refine x_lo (lo' := [(0, (2, m)), (1, (0, j0)), (2, (0, way)), (3, (0, 6 * ((h : Int) + (q9 : Int)))), (4, (0, ((c + 1 : Nat) : Int)))]) ⟨rfl, rfl, rfl, rfl, rfl, trivial⟩ (ih (c + 1) _ ⟨by omega, fun a x q => ?_, fun i hi => ?_⟩ (by omega))
          · by_cases e : a = m + 20
            · subst e; rw [up_i (by omega)]; exact k2 _ _ q
            · rw [up_a e]; exact k2 _ _ q
          · by_cases e : i = c
            · subst e; rw [up_s, if_neg (by omega)]
            · rw [up_i (by omega)]; exact k3 i (by omega)
        · refine x_iload_n (pc := 44) dX12_aim_44 rfl rfl ?_
          refine x_ineg (pc := 45) dX12_aim_45 (by omega) ?_
          refine x_i2l (pc := 46) dX12_aim_46 ?_
          refine x_goto (tgt := 51) (pc := 47) dX12_aim_47 (by decide) ?_
          refine x_lastore (pc := 51) dX12_aim_51 (sM_37 hS) (by omega) ?_
          refine x_iinc (pc := 52) dX12_aim_52 rfl (by omega) (by decide) rfl ?_
          refine x_goto (tgt := 16) (pc := 55) dX12_aim_55 (by decide) ?_
          refine x_lo (lo' := [(0, (2, m)), (1, (0, j0)), (2, (0, way)), (3, (0, 6 * ((h : Int) + (q9 : Int)))), (4, (0, ((c + 1 : Nat) : Int)))]) ⟨rfl, rfl, rfl, rfl, rfl, trivial⟩ (ih (c + 1) _ ⟨by omega, fun a x q => ?_, fun i hi => ?_⟩ (by omega))
          · by_cases e : a = m + 20
            · subst e; rw [up_i (by omega)]; exact k2 _ _ q
            · rw [up_a e]; exact k2 _ _ q
          · by_cases e : i = c
            · subst e; rw [up_s, if_pos (Or.inr (by assumption))]
            · rw [up_i (by omega)]; exact k3 i (by omega))
  refine x_bipush (pc := 0) dX12_aim_0 (by decide) ?_
  refine x_aload_n (pc := 2) dX12_aim_2 rfl rfl ?_
  refine x_getIV (jj := 43) (pc := 3) dX12_aim_3 fX12_361 hS.1 rfl (by decide) rfl (by (repeat (first | rewrite [up_s] | rewrite [up_i (by omega)] | rewrite [up_a (by omega)] | rewrite [stM_a (by omega) (by omega)])); first | exact h43 | exact h44 | rfl) ?_
  refine x_aload_n (pc := 6) dX12_aim_6 rfl rfl ?_
  refine x_getIV (jj := 44) (pc := 7) dX12_aim_7 fX12_367 hS.1 rfl (by decide) rfl (by (repeat (first | rewrite [up_s] | rewrite [up_i (by omega)] | rewrite [up_a (by omega)] | rewrite [stM_a (by omega) (by omega)])); first | exact h43 | exact h44 | rfl) ?_
  refine x_iadd (pc := 10) dX12_aim_10 (by omega) ?_
  refine x_imul (pc := 11) dX12_aim_11 (by omega) ?_
  refine x_istore_n (pc := 12) dX12_aim_12 rfl (by decide) rfl ?_
  refine x_iconst (pc := 13) dX12_aim_13 (by decide) ?_
  refine x_istore (pc := 14) dX12_aim_14 (by decide) rfl ?_
  exact x_lo (lo' := [(0, (2, m)), (1, (0, j0)), (2, (0, way)), (3, (0, 6 * ((h : Int) + (q9 : Int)))), (4, (0, ((0 : Nat) : Int)))]) ⟨rfl, rfl, rfl, rfl, rfl, trivial⟩ (loop 0 M ⟨by omega, fun _ _ _ => rfl, fun i hi => by omega⟩)
theorem RTm.aim {M M' : aM} {m j0 way : Int} {w h q9 : Nat} {F : Nat → Nat → Int} {nm : Nat → Int} {Zs : Nat → Nat → Int} {fx : Nat → Bool} (hR : RTm M m w h F (st0 w) nm q9 Zs fx) (hw : w ≤ 5) (hF : ∀ v, v < w → F v = iM v) (hZ : Zs q9 w = 0 ∧ ∀ c, c < w → Zs q9 c = if j0 = -1 ∨ j0 = (c : Int) then way else 0) (h1 : ∀ c : Nat, c < w → M' (m + 20) (6 * ((h + q9 : Nat) : Int) + c) = if j0 = -1 ∨ j0 = c then - way else 0) (h2 : M' (m + 20) (6 * ((h + q9 : Nat) : Int) + 5) = 0) (h3 : M' m 44 = q9 + 1) (h4 : ∀ a x : Int, ¬ (a = m + 20 ∧ 6 * ((h + q9 : Nat) : Int) ≤ x ∧ x < 6 * ((h + q9 : Nat) : Int) + 6) → ¬ (a = m ∧ x = 44) → M' a x = M a x) : RTm M' m w h F (st0 w) nm (q9 + 1) Zs fx := by
  refine ⟨⟨(h4 _ _ (by omega) (by omega)).trans hR.1.1, (h4 _ _ (by omega) (by omega)).trans hR.1.2.1, h3, (h4 _ _ (by omega) (by omega)).trans hR.1.2.2.2⟩, fun r c a b => ?_, fun i a => (h4 _ _ (by omega) (by omega)).trans (hR.2.2.1 i a), fun j a => (h4 _ _ (by omega) (by omega)).trans (hR.2.2.2.1 j a), fun j a => (h4 _ _ (by omega) (by omega)).trans (hR.2.2.2.2 j a)⟩
  by_cases e : r = h + q9
  · subst e
    rw [UM_Z, ta_st0 hF (cw_lt hw b)]
    by_cases e2 : c = 5
    · subst e2
      rw [cw_5, if_pos rfl, hZ.1]
      exact h2
    · have hc : c < w := by omega
      rw [cw_n hw hc, if_neg (by omega), hZ.2 c hc, h1 c hc]
      split <;> rfl
  · rw [h4 _ _ (by omega) (by omega)]
    exact hR.2.1 r c (by omega) b
theorem zA_aim {w : Nat} : zA w w = 0 ∧ ∀ c, c < w → zA w c = if (-1 : Int) = -1 ∨ (-1 : Int) = (c : Int) then 1 else 0 := ⟨if_neg (by omega), fun c hc => by rw [if_pos (Or.inl rfl)]; exact if_pos hc⟩
theorem sgV_aim {w v : Nat} {most way : Int} (hv : v < w) (hy : way = if most = 1 then 1 else -1) : sgV most v w = 0 ∧ ∀ c, c < w → sgV most v c = if (v : Int) = -1 ∨ (v : Int) = (c : Int) then way else 0 := by
  refine ⟨?_, fun c hc => ?_⟩
  · unfold sgV iM
    rw [if_neg (show ¬ v = w by omega), Int.mul_zero]
  · unfold sgV iM
    rw [hy]
    by_cases e : v = c
    · rw [if_pos e, if_pos (show (v : Int) = -1 ∨ (v : Int) = (c : Int) by omega), Int.mul_one]
    · rw [if_neg e, if_neg (show ¬ ((v : Int) = -1 ∨ (v : Int) = (c : Int)) by omega), Int.mul_zero]
theorem up_w {M : aM} {a i v b j : Int} (h : ¬ (b = a ∧ j = i)) : up M a i v b j = M b j := if_neg h
theorem s_table {l : Launch} {E : aE} {N : Nat} {S : aS} {M : aM} (hfl : l.stackTraces = false) (m s t3 : Int) (A : aM) (hS : lyM S m) (hR : RM M m A) (hA : TOK (A 0)) (hn : A 0 0 ≠ 0) (hs : 0 < s ∧ s < 128) (h5 : sumN (hb s) 7 ≤ 5) (hP : PBx (wN s) (hN (costV (A 0)) s) (FV (costV (A 0)) s) 1048576) (h3 : M m 3 = t3) (Zs : Nat → Nat → Int) (hZ0 : Zs 0 = zA (wN s)) : aMt l E pX12_table [(2, m), (0, s)] N S M (aU N S (fun M' => RTm M' m (wN s) (hN (costV (A 0)) s) (FV (costV (A 0)) s) (st0 (wN s)) (nmV (costV (A 0)) s) 1 Zs (fun _ => false) ∧ (∀ j : Nat, j < wN s → M' (m + 21) j = whoV s j) ∧ RM M' m A ∧ frM M M' m ∧ M' m 3 = t3)) := by
  refine a_met hfl rfl (by decide +kernel) (Nat.le_of_ble_eq_true rfl) ?_
  have hwv := wN_v (s := s) ⟨by omega, hs.2⟩
  have hw5 : wN s ≤ 5 := by omega
  have hh31 := hN_le (c := costV (A 0)) (s := s) ⟨by omega, hs.2⟩ h5
  have h6 := hA.tq.2.2.2.2.2.1
  have hcc : costV (core (A 0)) = costV (A 0) := costV_fun (core_same (A 0)) (by rw [core_hi (by omega)]; omega)
  have hc := costs_t hA.tq
  have lpB := a_loop2 (α := Nat) (β := aM) (fun x M2 => (1 ≤ x ∧ x ≤ s.toNat + 1) ∧ M2 m 42 = ((wN s : Nat) : Int) ∧ M2 m 43 = ((pkN (isR (costV (A 0)) s) x : Nat) : Int) ∧ M2 m 45 = 1 ∧ (∀ j : Nat, j < wN s → M2 (m + 21) j = whoV s j) ∧ (∀ i : Nat, i < pkN (isR (costV (A 0)) s) x → M2 (m + 22) i = 10 + pkS (isR (costV (A 0)) s) x i ∧ M2 (m + 20) (6 * i + 5) = (costV (A 0)) (pkS (isR (costV (A 0)) s) x i) ∧ ∀ k : Nat, k < wN s → M2 (m + 20) (6 * i + k) = if hb (pkS (isR (costV (A 0)) s) x i) (whoV s k) = 1 then 1 else 0) ∧ RM M2 m A ∧ frM M M2 m ∧ M2 m 3 = t3) (fun x M2 => s.toNat + 1 - x) (fun x M2 => aX l E pX12_table (aU N S (fun M' => RTm M' m (wN s) (hN (costV (A 0)) s) (FV (costV (A 0)) s) (st0 (wN s)) (nmV (costV (A 0)) s) 1 Zs (fun _ => false) ∧ (∀ j : Nat, j < wN s → M' (m + 21) j = whoV s j) ∧ RM M' m A ∧ frM M M' m ∧ M' m 3 = t3)) 0 0 N S M2 62 [(0, (2, m)), (1, (0, s)), (2, (0, (x : Int)))] []) (by
    intro x M2 hJ ih2
    obtain ⟨j1, j2, j3, j4, j5, j6, j7, j8, j9⟩ := hJ
    refine x_iload_n (pc := 62) dX12_table_62 rfl rfl ?_
    refine x_iload_n (pc := 63) dX12_table_63 rfl rfl ?_
    refine x_icmp_gt (tgt := 184) (pc := 64) dX12_table_64 (by decide) (fun c_64 => ?_) (fun c_64 => ?_)
    · refine x_iconst (pc := 184) dX12_table_184 (by decide) ?_
      refine x_istore_n (pc := 185) dX12_table_185 rfl (by decide) rfl ?_
      have ex : pkN (isR (costV (A 0)) s) x = hN (costV (A 0)) s := by rw [show x = s.toNat + 1 by omega]; rfl
      have exs : ∀ i, pkS (isR (costV (A 0)) s) x i = setV (costV (A 0)) s i := fun i => by rw [show x = s.toNat + 1 by omega]; rfl
      have lpD := a_loop2 (α := Nat) (β := aM) (fun k M3 => k ≤ 5 ∧ (∀ a y : Int, a ≠ m + 23 → a ≠ m + 24 → M3 a y = M2 a y) ∧ ∀ i : Nat, i < k → M3 (m + 23) i = i ∧ M3 (m + 24) i = 0) (fun k M3 => 5 - k) (fun k M3 => aX l E pX12_table (aU N S (fun M' => RTm M' m (wN s) (hN (costV (A 0)) s) (FV (costV (A 0)) s) (st0 (wN s)) (nmV (costV (A 0)) s) 1 Zs (fun _ => false) ∧ (∀ j : Nat, j < wN s → M' (m + 21) j = whoV s j) ∧ RM M' m A ∧ frM M M' m ∧ M' m 3 = t3)) 0 0 N S M3 186 [(0, (2, m)), (1, (0, s)), (2, (0, (k : Int)))] []) (by
        intro k M3 hK ih4
        obtain ⟨l1, l2, l3⟩ := hK
        refine x_iload_n (pc := 186) dX12_table_186 rfl rfl ?_
        refine x_iconst (pc := 187) dX12_table_187 (by decide) ?_
        refine x_icmp_ge (tgt := 211) (pc := 188) dX12_table_188 (by decide) (fun c_188 => ?_) (fun c_188 => ?_)
        · refine x_aload_n (pc := 211) dX12_table_211 rfl rfl ?_
          refine x_iconst (pc := 212) dX12_table_212 (by decide) ?_
          refine x_putI (jj := 44) (pc := 213) dX12_table_213 fX12_367 hS.1 rfl (by decide) rfl ?_
          refine x_aload_n (pc := 216) dX12_table_216 rfl rfl ?_
          refine x_iconst (pc := 217) dX12_table_217 (by decide) ?_
          refine x_iconst (pc := 218) dX12_table_218 (by decide) ?_
          have RT0 : RTm (up M3 m 44 0) m (wN s) (hN (costV (A 0)) s) (FV (costV (A 0)) s) (st0 (wN s)) (nmV (costV (A 0)) s) 0 Zs (fun _ => false) := by
            have p1 := hP.1
            refine ⟨⟨?_, ?_, up_s, ?_⟩, fun r c a b => ?_, fun i a => ?_, fun j a => ?_, fun j a => ?_⟩
            · rw [up_i (by omega), l2 _ _ (by omega) (by omega)]; exact j2
            · rw [up_i (by omega), l2 _ _ (by omega) (by omega), j3, ex]
            · rw [up_i (by omega), l2 _ _ (by omega) (by omega), ov_st0 p1]; exact j4
            · have q := j6 r (by rw [ex]; omega)
              rw [exs] at q
              rw [up_a (by omega), l2 _ _ (by omega) (by omega), UM_F (by omega), ta_st0 p1 (cw_lt hw5 b)]
              show _ = if cw (wN s) c = wN s then FV (costV (A 0)) s (wN s + r) (wN s) else - FV (costV (A 0)) s (wN s + r) (cw (wN s) c)
              by_cases e : c = 5
              · subst e
                rw [cw_5, if_pos rfl, FV_w]; exact q.2.1
              · have hc : c < wN s := by omega
                rw [cw_n hw5 hc, if_neg (by omega), FV_k hc, q.2.2 c hc]
                split <;> rfl
            · have q := j6 i (by rw [ex]; omega)
              rw [exs] at q
              rw [up_a (by omega), l2 _ _ (by omega) (by omega), q.1]
              show _ = nmV (costV (A 0)) s (wN s + i)
              unfold nmV
              rw [if_neg (by omega), show wN s + i - wN s = i by omega]
            · rw [up_a (by omega), (l3 j (by omega)).1]
              show _ = nmV (costV (A 0)) s j
              unfold nmV
              rw [if_pos a]
            · rw [up_a (by omega), (l3 j (by omega)).2]
              rfl
          refine x_callV2 (pc := 219) dX12_table_219 rfl kX12_370 (s_aim hfl m (-1) 1 (wN s) (hN (costV (A 0)) s) 0 hS hw5 (by omega) RT0.1.1 RT0.1.2.1 RT0.1.2.2.1 (Or.inl rfl)) hS.1 rfl rfl (Nat.le_of_ble_eq_true rfl) (k_U (fun M6 hM6 => ?_)) n_U
          obtain ⟨y1, y2, y3, y4⟩ := hM6
          refine x_return (pc := 222) dX12_table_222 rfl (by decide) ?_
          refine ⟨rfl, rfl, rfl, RT0.aim hw5 hP.1 (by rw [hZ0]; exact zA_aim) y1 y2 y3 y4, fun j hj => ?_, ?_, ?_, ?_⟩
          · rw [y4 _ _ (by omega) (by omega), up_a (by omega), l2 _ _ (by omega) (by omega)]; exact j5 j hj
          · exact j7.ft fun a i q1 q2 => by rw [y4 _ _ (by omega) (by omega), up_w (by omega), l2 _ _ (by omega) (by omega)]
          · intro a i q
            rw [y4 _ _ (by omega) (by omega), up_a (by omega), l2 _ _ (by omega) (by omega)]; exact j8 a i q
          · rw [y4 _ _ (by omega) (by omega), up_i (by omega), l2 _ _ (by omega) (by omega)]; exact j9
        · refine x_aload_n (pc := 191) dX12_table_191 rfl rfl ?_
          refine x_getR (jj := 40) (pc := 192) dX12_table_192 fX12_82 hS.1 rfl (by decide) rfl rM_40 ?_
          refine x_iload_n (pc := 195) dX12_table_195 rfl rfl ?_
          refine x_iload_n (pc := 196) dX12_table_196 rfl rfl ?_
          refine x_iastore (pc := 197) dX12_table_197 (sM_40 hS) (by omega) ?_
          refine x_aload_n (pc := 198) dX12_table_198 rfl rfl ?_
          refine x_getR (jj := 41) (pc := 199) dX12_table_199 fX12_85 hS.1 rfl (by decide) rfl rM_41 ?_
          refine x_iload_n (pc := 202) dX12_table_202 rfl rfl ?_
          refine x_iconst (pc := 203) dX12_table_203 (by decide) ?_
          refine x_zastore (pc := 204) dX12_table_204 (sM_41 hS) (by omega) (by omega) ?_
          refine x_iinc (pc := 205) dX12_table_205 rfl (by omega) (by decide) rfl ?_
          refine x_goto (tgt := 186) (pc := 208) dX12_table_208 (by decide) ?_
          refine x_lo (lo' := [(0, (2, m)), (1, (0, s)), (2, (0, ((k + 1 : Nat) : Int)))]) ⟨rfl, rfl, rfl, trivial⟩ (ih4 (k + 1) _ ⟨by omega, fun a y q1 q2 => ?_, fun i hi => ?_⟩ (by omega))
          · rw [up_a q2, up_a q1]; exact l2 _ _ q1 q2
          · by_cases e : i = k
            · subst e
              exact ⟨by rw [up_a (by omega), up_s], up_s⟩
            · exact ⟨by rw [up_a (by omega), up_i (by omega)]; exact (l3 i (by omega)).1, by rw [up_i (by omega), up_a (by omega)]; exact (l3 i (by omega)).2⟩)
      exact x_lo (lo' := [(0, (2, m)), (1, (0, s)), (2, (0, ((0 : Nat) : Int)))]) ⟨rfl, rfl, rfl, trivial⟩ (lpD 0 M2 ⟨by omega, fun _ _ _ _ => rfl, fun i hi => by omega⟩)
    · refine x_iload_n (pc := 67) dX12_table_67 rfl rfl ?_
      refine x_iload_n (pc := 68) dX12_table_68 rfl rfl ?_
      refine x_iconst (pc := 69) dX12_table_69 (by decide) ?_
      refine x_ixor (pc := 70) dX12_table_70 ?_
      refine x_iand (pc := 71) dX12_table_71 ?_
      refine x_if_ne (tgt := 178) (pc := 72) dX12_table_72 (by decide) (fun c_72 => ?_) (fun c_72 => ?_)
      · refine x_iinc (pc := 178) dX12_table_178 rfl (by omega) (by decide) rfl ?_
        refine x_goto (tgt := 62) (pc := 181) dX12_table_181 (by decide) ?_
        have hn : ¬ isR (costV (A 0)) s x = true := fun q => by
          have q := of_decide_eq_true q
          exact absurd q.2.1 (by assumption)
        have en : pkN (isR (costV (A 0)) s) (x + 1) = pkN (isR (costV (A 0)) s) x := pkN_n hn
        refine x_lo (lo' := [(0, (2, m)), (1, (0, s)), (2, (0, ((x + 1 : Nat) : Int)))]) ⟨rfl, rfl, rfl, trivial⟩ (ih2 (x + 1) M2 ⟨by omega, ?_, ?_, ?_, fun j hj => ?_, fun i hi => ?_, j7, j8, j9⟩ (by omega))
        · exact j2
        · rw [en]; exact j3
        · exact j4
        · exact j5 j hj
        · rw [en] at hi
          rw [pkS_st hi]
          have q := j6 i hi
          exact ⟨id q.1, id q.2.1, fun k hk => id (q.2.2 k hk)⟩
      · refine x_aload_n (pc := 75) dX12_table_75 rfl rfl ?_
        refine x_iload_n (pc := 76) dX12_table_76 rfl rfl ?_
        refine x_callV1 (pc := 77) dX12_table_77 rfl kX12_307 (s_MWcostOf hfl m (core (A 0)) hS j7.re (core_tq hA.tq) j7.rp0 (j7.2.2.1.st hn) (x : Int) ⟨by omega, by omega⟩) hS.1 rfl rfl (Nat.le_of_ble_eq_true rfl) (k_G (fun v9 M9 hM9 => ?_)) n_G
        obtain ⟨rfl, f9, p9, c9⟩ := hM9
        have R9 : RM M9 m A := j7.mk9 f9.k p9 c9
        have T9 : M9 m 3 = t3 := (f9 m 3 (by omega) (by omega) (by omega)).trans j9
        have F9 : frM M M9 m := j8.tr f9.k.fr
        rewrite [hcc]
        refine x_iconst (pc := 80) dX12_table_80 (by decide) ?_
        refine x_icmp_ne (tgt := 87) (pc := 81) dX12_table_81 (by decide) (fun c_81 => ?_) (fun c_81 => ?_)
        · refine x_iconst (pc := 87) dX12_table_87 (by decide) ?_
          refine x_istore_n (pc := 88) dX12_table_88 rfl (by decide) rfl ?_
          have hy9 : isR (costV (A 0)) s x = true := decide_eq_true ⟨by omega, by assumption, by assumption⟩
          have hup := pkN_up (p := isR (costV (A 0)) s) (x + 1) (s.toNat + 1 - (x + 1))
          rw [show x + 1 + (s.toNat + 1 - (x + 1)) = s.toNat + 1 by omega, pkN_y hy9] at hup
          have hN1 : hN (costV (A 0)) s = pkN (isR (costV (A 0)) s) (s.toNat + 1) := rfl
          have lpC := a_loop2 (α := Nat) (β := aM) (fun k M3 => k ≤ wN s ∧ (∀ a y : Int, ¬ (a = m + 20 ∧ 6 * ((pkN (isR (costV (A 0)) s) x : Nat) : Int) ≤ y ∧ y < 6 * ((pkN (isR (costV (A 0)) s) x : Nat) : Int) + 6) → M3 a y = M9 a y) ∧ ∀ i : Nat, i < k → M3 (m + 20) (6 * ((pkN (isR (costV (A 0)) s) x : Nat) : Int) + i) = if hb (x : Int) (whoV s i) = 1 then 1 else 0) (fun k M3 => wN s - k) (fun k M3 => aX l E pX12_table (aU N S (fun M' => RTm M' m (wN s) (hN (costV (A 0)) s) (FV (costV (A 0)) s) (st0 (wN s)) (nmV (costV (A 0)) s) 1 Zs (fun _ => false) ∧ (∀ j : Nat, j < wN s → M' (m + 21) j = whoV s j) ∧ RM M' m A ∧ frM M M' m ∧ M' m 3 = t3)) 0 0 N S M3 89 [(0, (2, m)), (1, (0, s)), (2, (0, (x : Int))), (3, (0, (k : Int)))] []) (by
            intro k M3 hK ih3
            obtain ⟨l1, l2, l3⟩ := hK
            refine x_iload_n (pc := 89) dX12_table_89 rfl rfl ?_
            refine x_aload_n (pc := 90) dX12_table_90 rfl rfl ?_
            refine x_getIV (jj := 42) (pc := 91) dX12_table_91 fX12_358 hS.1 rfl (by decide) rfl (by (repeat (first | rewrite [up_s] | rewrite [up_i (by omega)] | rewrite [up_a (by omega)] | rewrite [stM_a (by omega) (by omega)])); first | exact (l2 _ _ (by omega)).trans ((f9 _ _ (by omega) (by omega) (by omega)).trans j2) | exact (l2 _ _ (by omega)).trans ((f9 _ _ (by omega) (by omega) (by omega)).trans j3) | exact (l2 _ _ (by omega)).trans ((f9 _ _ (by omega) (by omega) (by omega)).trans (j5 k (by omega))) | exact hM43 | exact (f8 _ _ (by omega) (by omega) (by omega)).trans hM43 | rfl) ?_
            refine x_icmp_ge (tgt := 135) (pc := 94) dX12_table_94 (by decide) (fun c_94 => ?_) (fun c_94 => ?_)
            · have R3 : RM M3 m A := R9.ft fun a i x y => l2 a i (by omega)
              have T3 : M3 m 3 = t3 := (l2 _ _ (by omega)).trans T9
              have F3 : frM M M3 m := F9.tr fun a i q => l2 a i (by omega)
              have hM43 : M3 m 43 = ((pkN (isR (costV (A 0)) s) x : Nat) : Int) := (l2 _ _ (by omega)).trans ((f9 _ _ (by omega) (by omega) (by omega)).trans j3)
              refine x_aload_n (pc := 135) dX12_table_135 rfl rfl ?_
              refine x_getR (jj := 37) (pc := 136) dX12_table_136 fX12_73 hS.1 rfl (by decide) rfl rM_37 ?_
              refine x_bipush (pc := 139) dX12_table_139 (by decide) ?_
              refine x_aload_n (pc := 141) dX12_table_141 rfl rfl ?_
              refine x_getIV (jj := 43) (pc := 142) dX12_table_142 fX12_361 hS.1 rfl (by decide) rfl (by (repeat (first | rewrite [up_s] | rewrite [up_i (by omega)] | rewrite [up_a (by omega)] | rewrite [stM_a (by omega) (by omega)])); first | exact (l2 _ _ (by omega)).trans ((f9 _ _ (by omega) (by omega) (by omega)).trans j2) | exact (l2 _ _ (by omega)).trans ((f9 _ _ (by omega) (by omega) (by omega)).trans j3) | exact (l2 _ _ (by omega)).trans ((f9 _ _ (by omega) (by omega) (by omega)).trans (j5 k (by omega))) | exact hM43 | exact (f8 _ _ (by omega) (by omega) (by omega)).trans hM43 | rfl) ?_
              refine x_imul (pc := 145) dX12_table_145 (by omega) ?_
              refine x_iconst (pc := 146) dX12_table_146 (by decide) ?_
              refine x_iadd (pc := 147) dX12_table_147 (by omega) ?_
              refine x_aload_n (pc := 148) dX12_table_148 rfl rfl ?_
              refine x_iload_n (pc := 149) dX12_table_149 rfl rfl ?_
              refine x_callV1 (pc := 150) dX12_table_150 rfl kX12_307 (s_MWcostOf hfl m (core (A 0)) hS R3.re (core_tq hA.tq) R3.rp0 (R3.2.2.1.st hn) (x : Int) ⟨by omega, by omega⟩) hS.1 rfl rfl (Nat.le_of_ble_eq_true rfl) (k_G (fun v8 M8 hM8 => ?_)) n_G
              obtain ⟨rfl, f8, p8, c8⟩ := hM8
              have R8 : RM M8 m A := R3.mk9 f8.k p8 c8
              have T8 : M8 m 3 = t3 := (f8 m 3 (by omega) (by omega) (by omega)).trans T3
              have F8 : frM M M8 m := F3.tr f8.k.fr
              rewrite [hcc]
              refine x_i2l (pc := 153) dX12_table_153 ?_
              refine x_lastore (pc := 154) dX12_table_154 (sM_37 hS) (by omega) ?_
              refine x_aload_n (pc := 155) dX12_table_155 rfl rfl ?_
              refine x_getR (jj := 39) (pc := 156) dX12_table_156 fX12_79 hS.1 rfl (by decide) rfl rM_39 ?_
              refine x_aload_n (pc := 159) dX12_table_159 rfl rfl ?_
              refine x_getIV (jj := 43) (pc := 160) dX12_table_160 fX12_361 hS.1 rfl (by decide) rfl (by (repeat (first | rewrite [up_s] | rewrite [up_i (by omega)] | rewrite [up_a (by omega)] | rewrite [stM_a (by omega) (by omega)])); first | exact (l2 _ _ (by omega)).trans ((f9 _ _ (by omega) (by omega) (by omega)).trans j2) | exact (l2 _ _ (by omega)).trans ((f9 _ _ (by omega) (by omega) (by omega)).trans j3) | exact (l2 _ _ (by omega)).trans ((f9 _ _ (by omega) (by omega) (by omega)).trans (j5 k (by omega))) | exact hM43 | exact (f8 _ _ (by omega) (by omega) (by omega)).trans hM43 | rfl) ?_
              refine x_bipush (pc := 163) dX12_table_163 (by decide) ?_
              refine x_iload_n (pc := 165) dX12_table_165 rfl rfl ?_
              refine x_iadd (pc := 166) dX12_table_166 (by omega) ?_
              refine x_iastore (pc := 167) dX12_table_167 (sM_39 hS) (by omega) ?_
              refine x_aload_n (pc := 168) dX12_table_168 rfl rfl ?_
              refine x_dup (pc := 169) dX12_table_169 rfl ?_
              refine x_getIV (jj := 43) (pc := 170) dX12_table_170 fX12_361 hS.1 rfl (by decide) rfl (by (repeat (first | rewrite [up_s] | rewrite [up_i (by omega)] | rewrite [up_a (by omega)] | rewrite [stM_a (by omega) (by omega)])); first | exact (l2 _ _ (by omega)).trans ((f9 _ _ (by omega) (by omega) (by omega)).trans j2) | exact (l2 _ _ (by omega)).trans ((f9 _ _ (by omega) (by omega) (by omega)).trans j3) | exact (l2 _ _ (by omega)).trans ((f9 _ _ (by omega) (by omega) (by omega)).trans (j5 k (by omega))) | exact hM43 | exact (f8 _ _ (by omega) (by omega) (by omega)).trans hM43 | rfl) ?_
              refine x_iconst (pc := 173) dX12_table_173 (by decide) ?_
              refine x_iadd (pc := 174) dX12_table_174 (by omega) ?_
              refine x_putI (jj := 43) (pc := 175) dX12_table_175 fX12_361 hS.1 rfl (by decide) rfl ?_
              refine x_iinc (pc := 178) dX12_table_178 rfl (by omega) (by decide) rfl ?_
              refine x_goto (tgt := 62) (pc := 181) dX12_table_181 (by decide) ?_
              have hy : isR (costV (A 0)) s x = true := decide_eq_true ⟨by omega, by assumption, by assumption⟩
              have en : pkN (isR (costV (A 0)) s) (x + 1) = pkN (isR (costV (A 0)) s) x + 1 := pkN_y hy
              have g9 : ∀ a y : Int, ¬ (a = m + 20 ∧ 6 * ((pkN (isR (costV (A 0)) s) x : Nat) : Int) ≤ y ∧ y < 6 * ((pkN (isR (costV (A 0)) s) x : Nat) : Int) + 6) → (a = m → y ≠ 19 ∧ y ≠ 28) → ¬ (m + 6 ≤ a ∧ a < m + 9) → ¬ (m + 11 ≤ a ∧ a < m + 16) → M8 a y = M2 a y := fun a y q1 q2 q3 q4 => (f8 a y q2 q3 q4).trans ((l2 a y q1).trans (f9 a y q2 q3 q4))
              refine x_lo (lo' := [(0, (2, m)), (1, (0, s)), (2, (0, ((x + 1 : Nat) : Int)))]) ⟨rfl, rfl, rfl, trivial⟩ (ih2 (x + 1) _ ⟨by omega, ?_, ?_, ?_, fun j hj => ?_, fun i hi => ?_, ?_, ?_, ?_⟩ (by omega))
              · rw [up_i (by omega), up_a (by omega), up_a (by omega), g9 _ _ (by omega) (by omega) (by omega) (by omega)]; exact j2
              · rw [up_s, en]; omega
              · rw [up_i (by omega), up_a (by omega), up_a (by omega), g9 _ _ (by omega) (by omega) (by omega) (by omega)]; exact j4
              · rw [up_a (by omega), up_a (by omega), up_a (by omega), g9 _ _ (by omega) (by omega) (by omega) (by omega)]; exact j5 j hj
              · rw [en] at hi
                by_cases e : i = pkN (isR (costV (A 0)) s) x
                · subst e
                  rw [pkS_new hy]
                  refine ⟨?_, ?_, fun k2 hk2 => ?_⟩
                  · rw [up_a (by omega), up_s]
                  · rw [up_a (by omega), up_a (by omega), up_s]
                  · rw [up_a (by omega), up_a (by omega), up_i (by omega), f8 _ _ (by omega) (by omega) (by omega)]; exact l3 k2 (by omega)
                · have q := j6 i (by omega)
                  rw [pkS_st (by omega)]
                  refine ⟨?_, ?_, fun k2 hk2 => ?_⟩
                  · rw [up_a (by omega), up_i (by omega), up_a (by omega), g9 _ _ (by omega) (by omega) (by omega) (by omega)]; exact q.1
                  · rw [up_a (by omega), up_a (by omega), up_i (by omega), g9 _ _ (by omega) (by omega) (by omega) (by omega)]; exact q.2.1
                  · rw [up_a (by omega), up_a (by omega), up_i (by omega), g9 _ _ (by omega) (by omega) (by omega) (by omega)]; exact q.2.2 k2 hk2
              · exact R8.ft fun a i q1 q2 => by rw [up_w (by omega), up_a (by omega), up_a (by omega)]
              · exact ((F8.up (by omega)).up (by omega)).up (by omega)
              · rw [up_i (by omega), up_a (by omega), up_a (by omega)]; exact T8
            · have hwk := whoV_p (s := s) (j := k) (by omega)
              refine x_aload_n (pc := 97) dX12_table_97 rfl rfl ?_
              refine x_getR (jj := 37) (pc := 98) dX12_table_98 fX12_73 hS.1 rfl (by decide) rfl rM_37 ?_
              refine x_bipush (pc := 101) dX12_table_101 (by decide) ?_
              refine x_aload_n (pc := 103) dX12_table_103 rfl rfl ?_
              refine x_getIV (jj := 43) (pc := 104) dX12_table_104 fX12_361 hS.1 rfl (by decide) rfl (by (repeat (first | rewrite [up_s] | rewrite [up_i (by omega)] | rewrite [up_a (by omega)] | rewrite [stM_a (by omega) (by omega)])); first | exact (l2 _ _ (by omega)).trans ((f9 _ _ (by omega) (by omega) (by omega)).trans j2) | exact (l2 _ _ (by omega)).trans ((f9 _ _ (by omega) (by omega) (by omega)).trans j3) | exact (l2 _ _ (by omega)).trans ((f9 _ _ (by omega) (by omega) (by omega)).trans (j5 k (by omega))) | exact hM43 | exact (f8 _ _ (by omega) (by omega) (by omega)).trans hM43 | rfl) ?_
              refine x_imul (pc := 107) dX12_table_107 (by omega) ?_
              refine x_iload_n (pc := 108) dX12_table_108 rfl rfl ?_
              refine x_iadd (pc := 109) dX12_table_109 (by omega) ?_
              refine x_iload_n (pc := 110) dX12_table_110 rfl rfl ?_
              refine x_aload_n (pc := 111) dX12_table_111 rfl rfl ?_
              refine x_getR (jj := 38) (pc := 112) dX12_table_112 fX12_76 hS.1 rfl (by decide) rfl rM_38 ?_
              refine x_iload_n (pc := 115) dX12_table_115 rfl rfl ?_
              refine x_ialoadV (pc := 116) dX12_table_116 (sM_38 hS) (by omega) (by (repeat (first | rewrite [up_s] | rewrite [up_i (by omega)] | rewrite [up_a (by omega)] | rewrite [stM_a (by omega) (by omega)])); first | exact (l2 _ _ (by omega)).trans ((f9 _ _ (by omega) (by omega) (by omega)).trans j2) | exact (l2 _ _ (by omega)).trans ((f9 _ _ (by omega) (by omega) (by omega)).trans j3) | exact (l2 _ _ (by omega)).trans ((f9 _ _ (by omega) (by omega) (by omega)).trans (j5 k (by omega))) | exact hM43 | exact (f8 _ _ (by omega) (by omega) (by omega)).trans hM43 | rfl) (fun g_116 => ?_)
              refine x_callS2 (pc := 117) dX12_table_117 rfl kX12_136 (s_hasM hfl _ _) rfl (Nat.le_of_ble_eq_true rfl) (k_B (fun q_117 => ?_) (fun q_117 => ?_)) n_B
              · refine x_if_eq (tgt := 127) (pc := 120) dX12_table_120 (by decide) (fun c => absurd c (by decide)) (fun _ => ?_)
                refine x_lconst1 (pc := 123) dX12_table_123 ?_
                refine x_goto (tgt := 128) (pc := 124) dX12_table_124 (by decide) ?_
                refine x_lastore (pc := 128) dX12_table_128 (sM_37 hS) (by omega) ?_
                refine x_iinc (pc := 129) dX12_table_129 rfl (by omega) (by decide) rfl ?_
                refine x_goto (tgt := 89) (pc := 132) dX12_table_132 (by decide) ?_
                refine x_lo (lo' := [(0, (2, m)), (1, (0, s)), (2, (0, (x : Int))), (3, (0, ((k + 1 : Nat) : Int)))]) ⟨rfl, rfl, rfl, rfl, trivial⟩ (ih3 (k + 1) _ ⟨by omega, fun a y q => ?_, fun i hi => ?_⟩ (by omega))
                · by_cases e : a = m + 20
                  · subst e; rw [up_i (by omega)]; exact l2 _ _ q
                  · rw [up_a e]; exact l2 _ _ q
                · by_cases e : i = k
                  · subst e; rw [up_s, if_pos (by assumption)]
                  · rw [up_i (by omega)]; exact l3 i (by omega)
              · refine x_if_eq (tgt := 127) (pc := 120) dX12_table_120 (by decide) (fun _ => ?_) (fun c => absurd c (by decide))
                refine x_lconst0 (pc := 127) dX12_table_127 ?_
                refine x_lastore (pc := 128) dX12_table_128 (sM_37 hS) (by omega) ?_
                refine x_iinc (pc := 129) dX12_table_129 rfl (by omega) (by decide) rfl ?_
                refine x_goto (tgt := 89) (pc := 132) dX12_table_132 (by decide) ?_
                refine x_lo (lo' := [(0, (2, m)), (1, (0, s)), (2, (0, (x : Int))), (3, (0, ((k + 1 : Nat) : Int)))]) ⟨rfl, rfl, rfl, rfl, trivial⟩ (ih3 (k + 1) _ ⟨by omega, fun a y q => ?_, fun i hi => ?_⟩ (by omega))
                · by_cases e : a = m + 20
                  · subst e; rw [up_i (by omega)]; exact l2 _ _ q
                  · rw [up_a e]; exact l2 _ _ q
                · by_cases e : i = k
                  · subst e; rw [up_s, if_neg (by assumption)]
                  · rw [up_i (by omega)]; exact l3 i (by omega))
          exact x_lo (lo' := [(0, (2, m)), (1, (0, s)), (2, (0, (x : Int))), (3, (0, ((0 : Nat) : Int)))]) ⟨rfl, rfl, rfl, rfl, trivial⟩ (lpC 0 M9 ⟨by omega, fun _ _ _ => rfl, fun i hi => by omega⟩)
        · refine x_goto (tgt := 178) (pc := 84) dX12_table_84 (by decide) ?_
          refine x_iinc (pc := 178) dX12_table_178 rfl (by omega) (by decide) rfl ?_
          refine x_goto (tgt := 62) (pc := 181) dX12_table_181 (by decide) ?_
          have hn : ¬ isR (costV (A 0)) s x = true := fun q => by
            have q := of_decide_eq_true q
            exact q.2.2 (by assumption)
          have en : pkN (isR (costV (A 0)) s) (x + 1) = pkN (isR (costV (A 0)) s) x := pkN_n hn
          refine x_lo (lo' := [(0, (2, m)), (1, (0, s)), (2, (0, ((x + 1 : Nat) : Int)))]) ⟨rfl, rfl, rfl, trivial⟩ (ih2 (x + 1) M9 ⟨by omega, ?_, ?_, ?_, fun j hj => ?_, fun i hi => ?_, R9, F9, T9⟩ (by omega))
          · exact (f9 _ _ (by omega) (by omega) (by omega)).trans j2
          · rw [en]; exact (f9 _ _ (by omega) (by omega) (by omega)).trans j3
          · exact (f9 _ _ (by omega) (by omega) (by omega)).trans j4
          · exact (f9 _ _ (by omega) (by omega) (by omega)).trans (j5 j hj)
          · rw [en] at hi
            rw [pkS_st hi]
            have q := j6 i hi
            exact ⟨(f9 _ _ (by omega) (by omega) (by omega)).trans q.1, (f9 _ _ (by omega) (by omega) (by omega)).trans q.2.1, fun k hk => (f9 _ _ (by omega) (by omega) (by omega)).trans (q.2.2 k hk)⟩)
  have lpA := a_loop2 (α := Nat) (β := aM) (fun i M1 => i ≤ 7 ∧ M1 m 42 = ((pkN (isH s) i : Nat) : Int) ∧ (∀ j : Nat, j < pkN (isH s) i → M1 (m + 21) j = pkS (isH s) i j) ∧ ∀ a x : Int, a ≠ m + 21 → ¬ (a = m ∧ x = 42) → M1 a x = M a x) (fun i M1 => 7 - i) (fun i M1 => aX l E pX12_table (aU N S (fun M' => RTm M' m (wN s) (hN (costV (A 0)) s) (FV (costV (A 0)) s) (st0 (wN s)) (nmV (costV (A 0)) s) 1 Zs (fun _ => false) ∧ (∀ j : Nat, j < wN s → M' (m + 21) j = whoV s j) ∧ RM M' m A ∧ frM M M' m ∧ M' m 3 = t3)) 0 0 N S M1 7 [(0, (2, m)), (1, (0, s)), (2, (0, (i : Int)))] []) (by
    intro i M1 hI ih
    obtain ⟨k1, k2, k3, k4⟩ := hI
    refine x_iload_n (pc := 7) dX12_table_7 rfl rfl ?_
    refine x_bipush (pc := 8) dX12_table_8 (by decide) ?_
    refine x_icmp_ge (tgt := 50) (pc := 10) dX12_table_10 (by decide) (fun c_10 => ?_) (fun c_10 => ?_)
    · refine x_aload_n (pc := 50) dX12_table_50 rfl rfl ?_
      refine x_iconst (pc := 51) dX12_table_51 (by decide) ?_
      refine x_putI (jj := 43) (pc := 52) dX12_table_52 fX12_361 hS.1 rfl (by decide) rfl ?_
      refine x_aload_n (pc := 55) dX12_table_55 rfl rfl ?_
      refine x_lconst1 (pc := 56) dX12_table_56 ?_
      refine x_putJ (jj := 45) (pc := 57) dX12_table_57 fX12_364 hS.1 rfl (by decide) rfl ?_
      refine x_iconst (pc := 60) dX12_table_60 (by decide) ?_
      refine x_istore_n (pc := 61) dX12_table_61 rfl (by decide) rfl ?_
      have ew : pkN (isH s) i = wN s := by rw [show i = 7 by omega]; rfl
      have ek : ∀ j, pkS (isH s) i j = whoV s j := fun j => by rw [show i = 7 by omega]; rfl
      rw [ew] at k2 k3
      have z1 : pkN (isR (costV (A 0)) s) 1 = 0 := pkN_n (fun q => by have := (of_decide_eq_true q).1; omega)
      refine x_lo (lo' := [(0, (2, m)), (1, (0, s)), (2, (0, ((1 : Nat) : Int)))]) ⟨rfl, rfl, rfl, trivial⟩ (lpB 1 _ ⟨by omega, ?_, ?_, ?_, fun j hj => ?_, fun i2 hi => ?_, ?_, ?_, ?_⟩)
      · rw [up_i (by omega), up_i (by omega)]; exact k2
      · rw [up_i (by omega), up_s, z1]; rfl
      · rw [up_s]
      · rw [up_a (by omega), up_a (by omega), ← ek j]; exact k3 j hj
      · rw [z1] at hi; omega
      · exact hR.ft fun a x q1 q2 => by rw [up_w (by omega), up_w (by omega)]; exact k4 _ _ (by omega) (by omega)
      · intro a x q
        rw [up_a (by omega), up_a (by omega)]; exact k4 _ _ (by omega) (by omega)
      · rw [up_i (by omega), up_i (by omega), k4 _ _ (by omega) (by omega)]; exact h3
    · refine x_iload_n (pc := 13) dX12_table_13 rfl rfl ?_
      refine x_iload_n (pc := 14) dX12_table_14 rfl rfl ?_
      refine x_callS2 (pc := 15) dX12_table_15 rfl kX12_136 (s_hasM hfl _ _) rfl (Nat.le_of_ble_eq_true rfl) (k_B (fun q_15 => ?_) (fun q_15 => ?_)) n_B
      · refine x_if_ne (tgt := 24) (pc := 18) dX12_table_18 (by decide) (fun _ => ?_) (fun c => absurd c (by decide))
        have hup := pkN_up (p := isH s) (i + 1) (7 - (i + 1))
        rw [show i + 1 + (7 - (i + 1)) = 7 by omega, pkN_y (p := isH s) (n := i) (decide_eq_true (by assumption))] at hup
        have hwd : wN s = pkN (isH s) 7 := rfl
        refine x_aload_n (pc := 24) dX12_table_24 rfl rfl ?_
        refine x_getR (jj := 38) (pc := 25) dX12_table_25 fX12_76 hS.1 rfl (by decide) rfl rM_38 ?_
        refine x_aload_n (pc := 28) dX12_table_28 rfl rfl ?_
        refine x_getIV (jj := 42) (pc := 29) dX12_table_29 fX12_358 hS.1 rfl (by decide) rfl (by (repeat (first | rewrite [up_s] | rewrite [up_i (by omega)] | rewrite [up_a (by omega)] | rewrite [stM_a (by omega) (by omega)])); first | exact k2 | rfl) ?_
        refine x_iload_n (pc := 32) dX12_table_32 rfl rfl ?_
        refine x_iastore (pc := 33) dX12_table_33 (sM_38 hS) (by omega) ?_
        refine x_aload_n (pc := 34) dX12_table_34 rfl rfl ?_
        refine x_dup (pc := 35) dX12_table_35 rfl ?_
        refine x_getIV (jj := 42) (pc := 36) dX12_table_36 fX12_358 hS.1 rfl (by decide) rfl (by (repeat (first | rewrite [up_s] | rewrite [up_i (by omega)] | rewrite [up_a (by omega)] | rewrite [stM_a (by omega) (by omega)])); first | exact k2 | rfl) ?_
        refine x_iconst (pc := 39) dX12_table_39 (by decide) ?_
        refine x_iadd (pc := 40) dX12_table_40 (by omega) ?_
        refine x_putI (jj := 42) (pc := 41) dX12_table_41 fX12_358 hS.1 rfl (by decide) rfl ?_
        refine x_iinc (pc := 44) dX12_table_44 rfl (by omega) (by decide) rfl ?_
        refine x_goto (tgt := 7) (pc := 47) dX12_table_47 (by decide) ?_
        have hy : isH s i = true := decide_eq_true (by assumption)
        have en : pkN (isH s) (i + 1) = pkN (isH s) i + 1 := pkN_y hy
        refine x_lo (lo' := [(0, (2, m)), (1, (0, s)), (2, (0, ((i + 1 : Nat) : Int)))]) ⟨rfl, rfl, rfl, trivial⟩ (ih (i + 1) _ ⟨by omega, ?_, fun j hj => ?_, fun a x q1 q2 => ?_⟩ (by omega))
        · rw [up_s, en]; omega
        · rw [en] at hj
          rw [up_a (by omega)]
          by_cases e : j = pkN (isH s) i
          · subst e; rw [up_s, pkS_new hy]
          · rw [up_i (by omega), pkS_st (by omega)]; exact k3 j (by omega)
        · by_cases e : a = m
          · subst e; rw [up_i (by omega), up_a (by omega)]; exact k4 _ _ q1 q2
          · rw [up_a e, up_a q1]; exact k4 _ _ q1 q2
      · refine x_if_ne (tgt := 24) (pc := 18) dX12_table_18 (by decide) (fun c => absurd c (by decide)) (fun _ => ?_)
        refine x_goto (tgt := 44) (pc := 21) dX12_table_21 (by decide) ?_
        refine x_iinc (pc := 44) dX12_table_44 rfl (by omega) (by decide) rfl ?_
        refine x_goto (tgt := 7) (pc := 47) dX12_table_47 (by decide) ?_
        have hn : ¬ isH s i = true := fun q => (by assumption : ¬ hb s i = 1) (of_decide_eq_true q)
        have en : pkN (isH s) (i + 1) = pkN (isH s) i := pkN_n hn
        refine x_lo (lo' := [(0, (2, m)), (1, (0, s)), (2, (0, ((i + 1 : Nat) : Int)))]) ⟨rfl, rfl, rfl, trivial⟩ (ih (i + 1) M1 ⟨by omega, by rw [en]; exact k2, fun j hj => ?_, k4⟩ (by omega))
        rw [en] at hj
        rw [pkS_st hj]
        exact k3 j hj)
  refine x_aload_n (pc := 0) dX12_table_0 rfl rfl ?_
  refine x_iconst (pc := 1) dX12_table_1 (by decide) ?_
  refine x_putI (jj := 42) (pc := 2) dX12_table_2 fX12_358 hS.1 rfl (by decide) rfl ?_
  refine x_iconst (pc := 5) dX12_table_5 (by decide) ?_
  refine x_istore_n (pc := 6) dX12_table_6 rfl (by decide) rfl ?_
  exact x_lo (lo' := [(0, (2, m)), (1, (0, s)), (2, (0, ((0 : Nat) : Int)))]) ⟨rfl, rfl, rfl, trivial⟩ (lpA 0 _ ⟨by omega, up_s, fun j hj => absurd hj (by show ¬ j < 0; omega), fun a x q1 q2 => up_w (by omega)⟩)
