/-! the class's groups (2) -/
theorem a_loop5 {α β γ δ ε : Type} (I : α → β → γ → δ → ε → Prop) (μ : α → β → γ → δ → ε → Nat) (T : α → β → γ → δ → ε → Prop) (step : ∀ a b c d e, I a b c d e → (∀ a' b' c' d' e', I a' b' c' d' e' → μ a' b' c' d' e' < μ a b c d e → T a' b' c' d' e') → T a b c d e) : ∀ a b c d e, I a b c d e → T a b c d e := fun a b c d e h =>
  a_loop4 (fun a b c (q : δ × ε) => I a b c q.1 q.2) (fun a b c q => μ a b c q.1 q.2) (fun a b c q => T a b c q.1 q.2) (fun a b c q hI ih => step a b c q.1 q.2 hI fun a' b' c' d' e' h' hm => ih a' b' c' (d', e') h' hm) a b c (d, e) h
theorem a_loop6 {α β γ δ ε ζ : Type} (I : α → β → γ → δ → ε → ζ → Prop) (μ : α → β → γ → δ → ε → ζ → Nat) (T : α → β → γ → δ → ε → ζ → Prop) (step : ∀ a b c d e f, I a b c d e f → (∀ a' b' c' d' e' f', I a' b' c' d' e' f' → μ a' b' c' d' e' f' < μ a b c d e f → T a' b' c' d' e' f') → T a b c d e f) : ∀ a b c d e f, I a b c d e f → T a b c d e f := fun a b c d e f h =>
  a_loop5 (fun a b c d (q : ε × ζ) => I a b c d q.1 q.2) (fun a b c d q => μ a b c d q.1 q.2) (fun a b c d q => T a b c d q.1 q.2) (fun a b c d q hI ih => step a b c d q.1 q.2 hI fun a' b' c' d' e' f' h' hm => ih a' b' c' d' (e', f') h' hm) a b c d (e, f) h
theorem dJ6_numberOfTrailingZeros_0f7a4_0 : decode cJ6_numberOfTrailingZeros_0f7a4 0 = .ok (.iload_n 0, 1) := by decide +kernel
theorem dJ6_numberOfTrailingZeros_0f7a4_1 : decode cJ6_numberOfTrailingZeros_0f7a4 1 = .ok (.iconst (-1), 1) := by decide +kernel
theorem dJ6_numberOfTrailingZeros_0f7a4_2 : decode cJ6_numberOfTrailingZeros_0f7a4 2 = .ok (.ixor, 1) := by decide +kernel
theorem dJ6_numberOfTrailingZeros_0f7a4_3 : decode cJ6_numberOfTrailingZeros_0f7a4 3 = .ok (.iload_n 0, 1) := by decide +kernel
theorem dJ6_numberOfTrailingZeros_0f7a4_4 : decode cJ6_numberOfTrailingZeros_0f7a4 4 = .ok (.iconst 1, 1) := by decide +kernel
theorem dJ6_numberOfTrailingZeros_0f7a4_5 : decode cJ6_numberOfTrailingZeros_0f7a4 5 = .ok (.isub, 1) := by decide +kernel
theorem dJ6_numberOfTrailingZeros_0f7a4_6 : decode cJ6_numberOfTrailingZeros_0f7a4 6 = .ok (.iand, 1) := by decide +kernel
theorem dJ6_numberOfTrailingZeros_0f7a4_7 : decode cJ6_numberOfTrailingZeros_0f7a4 7 = .ok (.istore_n 0, 1) := by decide +kernel
theorem dJ6_numberOfTrailingZeros_0f7a4_8 : decode cJ6_numberOfTrailingZeros_0f7a4 8 = .ok (.iload_n 0, 1) := by decide +kernel
theorem dJ6_numberOfTrailingZeros_0f7a4_9 : decode cJ6_numberOfTrailingZeros_0f7a4 9 = .ok (.ifCond .gt 8, 3) := by decide +kernel
theorem dJ6_numberOfTrailingZeros_0f7a4_12 : decode cJ6_numberOfTrailingZeros_0f7a4 12 = .ok (.iload_n 0, 1) := by decide +kernel
theorem dJ6_numberOfTrailingZeros_0f7a4_13 : decode cJ6_numberOfTrailingZeros_0f7a4 13 = .ok (.bipush 32, 2) := by decide +kernel
theorem dJ6_numberOfTrailingZeros_0f7a4_15 : decode cJ6_numberOfTrailingZeros_0f7a4 15 = .ok (.iand, 1) := by decide +kernel
theorem dJ6_numberOfTrailingZeros_0f7a4_16 : decode cJ6_numberOfTrailingZeros_0f7a4 16 = .ok (.ireturn, 1) := by decide +kernel
theorem dJ6_numberOfTrailingZeros_0f7a4_17 : decode cJ6_numberOfTrailingZeros_0f7a4 17 = .ok (.iconst 1, 1) := by decide +kernel
theorem dJ6_numberOfTrailingZeros_0f7a4_18 : decode cJ6_numberOfTrailingZeros_0f7a4 18 = .ok (.istore_n 1, 1) := by decide +kernel
theorem dJ6_numberOfTrailingZeros_0f7a4_19 : decode cJ6_numberOfTrailingZeros_0f7a4 19 = .ok (.iload_n 0, 1) := by decide +kernel
theorem dJ6_numberOfTrailingZeros_0f7a4_20 : decode cJ6_numberOfTrailingZeros_0f7a4 20 = .ok (.ldc_w 264, 3) := by decide +kernel
theorem dJ6_numberOfTrailingZeros_0f7a4_23 : decode cJ6_numberOfTrailingZeros_0f7a4 23 = .ok (.if_icmp .le 11, 3) := by decide +kernel
theorem dJ6_numberOfTrailingZeros_0f7a4_26 : decode cJ6_numberOfTrailingZeros_0f7a4 26 = .ok (.iinc 1 16, 3) := by decide +kernel
theorem dJ6_numberOfTrailingZeros_0f7a4_29 : decode cJ6_numberOfTrailingZeros_0f7a4 29 = .ok (.iload_n 0, 1) := by decide +kernel
theorem dJ6_numberOfTrailingZeros_0f7a4_30 : decode cJ6_numberOfTrailingZeros_0f7a4 30 = .ok (.bipush 16, 2) := by decide +kernel
theorem dJ6_numberOfTrailingZeros_0f7a4_32 : decode cJ6_numberOfTrailingZeros_0f7a4 32 = .ok (.iushr, 1) := by decide +kernel
theorem dJ6_numberOfTrailingZeros_0f7a4_33 : decode cJ6_numberOfTrailingZeros_0f7a4 33 = .ok (.istore_n 0, 1) := by decide +kernel
theorem dJ6_numberOfTrailingZeros_0f7a4_34 : decode cJ6_numberOfTrailingZeros_0f7a4 34 = .ok (.iload_n 0, 1) := by decide +kernel
theorem dJ6_numberOfTrailingZeros_0f7a4_35 : decode cJ6_numberOfTrailingZeros_0f7a4 35 = .ok (.sipush 256, 3) := by decide +kernel
theorem dJ6_numberOfTrailingZeros_0f7a4_38 : decode cJ6_numberOfTrailingZeros_0f7a4 38 = .ok (.if_icmp .le 11, 3) := by decide +kernel
theorem dJ6_numberOfTrailingZeros_0f7a4_41 : decode cJ6_numberOfTrailingZeros_0f7a4 41 = .ok (.iinc 1 8, 3) := by decide +kernel
theorem dJ6_numberOfTrailingZeros_0f7a4_44 : decode cJ6_numberOfTrailingZeros_0f7a4 44 = .ok (.iload_n 0, 1) := by decide +kernel
theorem dJ6_numberOfTrailingZeros_0f7a4_45 : decode cJ6_numberOfTrailingZeros_0f7a4 45 = .ok (.bipush 8, 2) := by decide +kernel
theorem dJ6_numberOfTrailingZeros_0f7a4_47 : decode cJ6_numberOfTrailingZeros_0f7a4 47 = .ok (.iushr, 1) := by decide +kernel
theorem dJ6_numberOfTrailingZeros_0f7a4_48 : decode cJ6_numberOfTrailingZeros_0f7a4 48 = .ok (.istore_n 0, 1) := by decide +kernel
theorem dJ6_numberOfTrailingZeros_0f7a4_49 : decode cJ6_numberOfTrailingZeros_0f7a4 49 = .ok (.iload_n 0, 1) := by decide +kernel
theorem dJ6_numberOfTrailingZeros_0f7a4_50 : decode cJ6_numberOfTrailingZeros_0f7a4 50 = .ok (.bipush 16, 2) := by decide +kernel
theorem dJ6_numberOfTrailingZeros_0f7a4_52 : decode cJ6_numberOfTrailingZeros_0f7a4 52 = .ok (.if_icmp .le 10, 3) := by decide +kernel
theorem dJ6_numberOfTrailingZeros_0f7a4_55 : decode cJ6_numberOfTrailingZeros_0f7a4 55 = .ok (.iinc 1 4, 3) := by decide +kernel
theorem dJ6_numberOfTrailingZeros_0f7a4_58 : decode cJ6_numberOfTrailingZeros_0f7a4 58 = .ok (.iload_n 0, 1) := by decide +kernel
theorem dJ6_numberOfTrailingZeros_0f7a4_59 : decode cJ6_numberOfTrailingZeros_0f7a4 59 = .ok (.iconst 4, 1) := by decide +kernel
theorem dJ6_numberOfTrailingZeros_0f7a4_60 : decode cJ6_numberOfTrailingZeros_0f7a4 60 = .ok (.iushr, 1) := by decide +kernel
theorem dJ6_numberOfTrailingZeros_0f7a4_61 : decode cJ6_numberOfTrailingZeros_0f7a4 61 = .ok (.istore_n 0, 1) := by decide +kernel
theorem dJ6_numberOfTrailingZeros_0f7a4_62 : decode cJ6_numberOfTrailingZeros_0f7a4 62 = .ok (.iload_n 0, 1) := by decide +kernel
theorem dJ6_numberOfTrailingZeros_0f7a4_63 : decode cJ6_numberOfTrailingZeros_0f7a4 63 = .ok (.iconst 4, 1) := by decide +kernel
theorem dJ6_numberOfTrailingZeros_0f7a4_64 : decode cJ6_numberOfTrailingZeros_0f7a4 64 = .ok (.if_icmp .le 10, 3) := by decide +kernel
theorem dJ6_numberOfTrailingZeros_0f7a4_67 : decode cJ6_numberOfTrailingZeros_0f7a4 67 = .ok (.iinc 1 2, 3) := by decide +kernel
theorem dJ6_numberOfTrailingZeros_0f7a4_70 : decode cJ6_numberOfTrailingZeros_0f7a4 70 = .ok (.iload_n 0, 1) := by decide +kernel
theorem dJ6_numberOfTrailingZeros_0f7a4_71 : decode cJ6_numberOfTrailingZeros_0f7a4 71 = .ok (.iconst 2, 1) := by decide +kernel
theorem dJ6_numberOfTrailingZeros_0f7a4_72 : decode cJ6_numberOfTrailingZeros_0f7a4 72 = .ok (.iushr, 1) := by decide +kernel
theorem dJ6_numberOfTrailingZeros_0f7a4_73 : decode cJ6_numberOfTrailingZeros_0f7a4 73 = .ok (.istore_n 0, 1) := by decide +kernel
theorem dJ6_numberOfTrailingZeros_0f7a4_74 : decode cJ6_numberOfTrailingZeros_0f7a4 74 = .ok (.iload_n 1, 1) := by decide +kernel
theorem dJ6_numberOfTrailingZeros_0f7a4_75 : decode cJ6_numberOfTrailingZeros_0f7a4 75 = .ok (.iload_n 0, 1) := by decide +kernel
theorem dJ6_numberOfTrailingZeros_0f7a4_76 : decode cJ6_numberOfTrailingZeros_0f7a4 76 = .ok (.iconst 1, 1) := by decide +kernel
theorem dJ6_numberOfTrailingZeros_0f7a4_77 : decode cJ6_numberOfTrailingZeros_0f7a4 77 = .ok (.iushr, 1) := by decide +kernel
theorem dJ6_numberOfTrailingZeros_0f7a4_78 : decode cJ6_numberOfTrailingZeros_0f7a4 78 = .ok (.iadd, 1) := by decide +kernel
theorem dJ6_numberOfTrailingZeros_0f7a4_79 : decode cJ6_numberOfTrailingZeros_0f7a4 79 = .ok (.ireturn, 1) := by decide +kernel
theorem ntz_v {x : Int} (hx : 0 < x ∧ x < 128) : (b_and (b_xor x (-1)) (x - 1) = 0 ∧ lowV x = 0) ∨ (b_and (b_xor x (-1)) (x - 1) = 1 ∧ lowV x = 1) ∨ (b_and (b_xor x (-1)) (x - 1) = 3 ∧ lowV x = 2) ∨ (b_and (b_xor x (-1)) (x - 1) = 7 ∧ lowV x = 3) ∨ (b_and (b_xor x (-1)) (x - 1) = 15 ∧ lowV x = 4) ∨ (b_and (b_xor x (-1)) (x - 1) = 31 ∧ lowV x = 5) ∨ (b_and (b_xor x (-1)) (x - 1) = 63 ∧ lowV x = 6) := by
  have z := bt_fin (n := 128) (m := 1) (P := fun x _ => x = 0 ∨ (b_and (b_xor x (-1)) (x - 1) = 0 ∧ lowV x = 0) ∨ (b_and (b_xor x (-1)) (x - 1) = 1 ∧ lowV x = 1) ∨ (b_and (b_xor x (-1)) (x - 1) = 3 ∧ lowV x = 2) ∨ (b_and (b_xor x (-1)) (x - 1) = 7 ∧ lowV x = 3) ∨ (b_and (b_xor x (-1)) (x - 1) = 15 ∧ lowV x = 4) ∨ (b_and (b_xor x (-1)) (x - 1) = 31 ∧ lowV x = 5) ∨ (b_and (b_xor x (-1)) (x - 1) = 63 ∧ lowV x = 6)) (by decide +kernel) (a := x) (by omega) (b := 0) (by omega)
  omega
theorem s_ntz {l : Launch} {E : aE} {N : Nat} {S : aS} {M : aM} (hfl : l.stackTraces = false) (x : Int) (hx : 0 < x ∧ x < 128) : aMt l E pJ6_numberOfTrailingZeros_0f7a4 [(0, x)] N S M (aR (0, lowV x) N S M) := by
  refine a_met hfl rfl (by decide +kernel) (Nat.le_of_ble_eq_true rfl) ?_
  rcases ntz_v hx with ⟨e1, e2⟩ | ⟨e1, e2⟩ | ⟨e1, e2⟩ | ⟨e1, e2⟩ | ⟨e1, e2⟩ | ⟨e1, e2⟩ | ⟨e1, e2⟩
  · refine x_iload_n (pc := 0) dJ6_numberOfTrailingZeros_0f7a4_0 rfl rfl ?_
    refine x_iconst (pc := 1) dJ6_numberOfTrailingZeros_0f7a4_1 (by decide) ?_
    refine x_ixor (pc := 2) dJ6_numberOfTrailingZeros_0f7a4_2 ?_
    refine x_iload_n (pc := 3) dJ6_numberOfTrailingZeros_0f7a4_3 rfl rfl ?_
    refine x_iconst (pc := 4) dJ6_numberOfTrailingZeros_0f7a4_4 (by decide) ?_
    refine x_isub (pc := 5) dJ6_numberOfTrailingZeros_0f7a4_5 (by omega) ?_
    refine x_iand (pc := 6) dJ6_numberOfTrailingZeros_0f7a4_6 ?_
    rewrite [e1]
    refine x_istore_n (pc := 7) dJ6_numberOfTrailingZeros_0f7a4_7 rfl (by decide) rfl ?_
    refine x_iload_n (pc := 8) dJ6_numberOfTrailingZeros_0f7a4_8 rfl rfl ?_
    refine x_if_gt (tgt := 17) (pc := 9) dJ6_numberOfTrailingZeros_0f7a4_9 (by decide) (fun c_9 => ?_) (fun c_9 => ?_)
    · refine x_iconst (pc := 17) dJ6_numberOfTrailingZeros_0f7a4_17 (by decide) ?_
      refine x_istore_n (pc := 18) dJ6_numberOfTrailingZeros_0f7a4_18 rfl (by decide) rfl ?_
      refine x_iload_n (pc := 19) dJ6_numberOfTrailingZeros_0f7a4_19 rfl rfl ?_
      refine x_ldcw (n := 65536) (pc := 20) cJ6_264 (by decide) dJ6_numberOfTrailingZeros_0f7a4_20 ?_
      refine x_icmp_le (tgt := 34) (pc := 23) dJ6_numberOfTrailingZeros_0f7a4_23 (by decide) (fun c_23 => ?_) (fun c_23 => ?_)
      · refine x_iload_n (pc := 34) dJ6_numberOfTrailingZeros_0f7a4_34 rfl rfl ?_
        refine x_sipush (pc := 35) dJ6_numberOfTrailingZeros_0f7a4_35 (by decide) ?_
        refine x_icmp_le (tgt := 49) (pc := 38) dJ6_numberOfTrailingZeros_0f7a4_38 (by decide) (fun c_38 => ?_) (fun c_38 => ?_)
        · refine x_iload_n (pc := 49) dJ6_numberOfTrailingZeros_0f7a4_49 rfl rfl ?_
          refine x_bipush (pc := 50) dJ6_numberOfTrailingZeros_0f7a4_50 (by decide) ?_
          refine x_icmp_le (tgt := 62) (pc := 52) dJ6_numberOfTrailingZeros_0f7a4_52 (by decide) (fun c_52 => ?_) (fun c_52 => ?_)
          · refine x_iload_n (pc := 62) dJ6_numberOfTrailingZeros_0f7a4_62 rfl rfl ?_
            refine x_iconst (pc := 63) dJ6_numberOfTrailingZeros_0f7a4_63 (by decide) ?_
            refine x_icmp_le (tgt := 74) (pc := 64) dJ6_numberOfTrailingZeros_0f7a4_64 (by decide) (fun c_64 => ?_) (fun c_64 => ?_)
            · refine x_iload_n (pc := 74) dJ6_numberOfTrailingZeros_0f7a4_74 rfl rfl ?_
              refine x_iload_n (pc := 75) dJ6_numberOfTrailingZeros_0f7a4_75 rfl rfl ?_
              refine x_iconst (pc := 76) dJ6_numberOfTrailingZeros_0f7a4_76 (by decide) ?_
              refine x_iushr (pc := 77) dJ6_numberOfTrailingZeros_0f7a4_77 ?_
              try rewrite [show b_ushr 1 1 = 0 by decide +kernel]
              try rewrite [show b_ushr 3 1 = 1 by decide +kernel]
              refine x_iadd (pc := 78) dJ6_numberOfTrailingZeros_0f7a4_78 (by omega) ?_
              refine x_ireturn (pc := 79) dJ6_numberOfTrailingZeros_0f7a4_79 rfl (by decide) ?_
              first
                | (exfalso; omega)
                | exact ⟨by rw [e2]; rfl, rfl, rfl, rfl⟩
            · refine x_iinc (pc := 67) dJ6_numberOfTrailingZeros_0f7a4_67 rfl (by omega) (by decide) rfl ?_
              refine x_iload_n (pc := 70) dJ6_numberOfTrailingZeros_0f7a4_70 rfl rfl ?_
              refine x_iconst (pc := 71) dJ6_numberOfTrailingZeros_0f7a4_71 (by decide) ?_
              refine x_iushr (pc := 72) dJ6_numberOfTrailingZeros_0f7a4_72 ?_
              try rewrite [show b_ushr 7 2 = 1 by decide +kernel]
              try rewrite [show b_ushr 15 2 = 3 by decide +kernel]
              refine x_istore_n (pc := 73) dJ6_numberOfTrailingZeros_0f7a4_73 rfl (by decide) rfl ?_
              refine x_iload_n (pc := 74) dJ6_numberOfTrailingZeros_0f7a4_74 rfl rfl ?_
              refine x_iload_n (pc := 75) dJ6_numberOfTrailingZeros_0f7a4_75 rfl rfl ?_
              refine x_iconst (pc := 76) dJ6_numberOfTrailingZeros_0f7a4_76 (by decide) ?_
              refine x_iushr (pc := 77) dJ6_numberOfTrailingZeros_0f7a4_77 ?_
              try rewrite [show b_ushr 1 1 = 0 by decide +kernel]
              try rewrite [show b_ushr 3 1 = 1 by decide +kernel]
              refine x_iadd (pc := 78) dJ6_numberOfTrailingZeros_0f7a4_78 (by omega) ?_
              refine x_ireturn (pc := 79) dJ6_numberOfTrailingZeros_0f7a4_79 rfl (by decide) ?_
              first
                | (exfalso; omega)
                | exact ⟨by rw [e2]; rfl, rfl, rfl, rfl⟩
          · refine x_iinc (pc := 55) dJ6_numberOfTrailingZeros_0f7a4_55 rfl (by omega) (by decide) rfl ?_
            refine x_iload_n (pc := 58) dJ6_numberOfTrailingZeros_0f7a4_58 rfl rfl ?_
            refine x_iconst (pc := 59) dJ6_numberOfTrailingZeros_0f7a4_59 (by decide) ?_
            refine x_iushr (pc := 60) dJ6_numberOfTrailingZeros_0f7a4_60 ?_
            try rewrite [show b_ushr 31 4 = 1 by decide +kernel]
            try rewrite [show b_ushr 63 4 = 3 by decide +kernel]
            refine x_istore_n (pc := 61) dJ6_numberOfTrailingZeros_0f7a4_61 rfl (by decide) rfl ?_
            refine x_iload_n (pc := 62) dJ6_numberOfTrailingZeros_0f7a4_62 rfl rfl ?_
            refine x_iconst (pc := 63) dJ6_numberOfTrailingZeros_0f7a4_63 (by decide) ?_
            refine x_icmp_le (tgt := 74) (pc := 64) dJ6_numberOfTrailingZeros_0f7a4_64 (by decide) (fun c_64 => ?_) (fun c_64 => ?_)
            · refine x_iload_n (pc := 74) dJ6_numberOfTrailingZeros_0f7a4_74 rfl rfl ?_
              refine x_iload_n (pc := 75) dJ6_numberOfTrailingZeros_0f7a4_75 rfl rfl ?_
              refine x_iconst (pc := 76) dJ6_numberOfTrailingZeros_0f7a4_76 (by decide) ?_
              refine x_iushr (pc := 77) dJ6_numberOfTrailingZeros_0f7a4_77 ?_
              try rewrite [show b_ushr 1 1 = 0 by decide +kernel]
              try rewrite [show b_ushr 3 1 = 1 by decide +kernel]
              refine x_iadd (pc := 78) dJ6_numberOfTrailingZeros_0f7a4_78 (by omega) ?_
              refine x_ireturn (pc := 79) dJ6_numberOfTrailingZeros_0f7a4_79 rfl (by decide) ?_
              first
                | (exfalso; omega)
                | exact ⟨by rw [e2]; rfl, rfl, rfl, rfl⟩
            · refine x_iinc (pc := 67) dJ6_numberOfTrailingZeros_0f7a4_67 rfl (by omega) (by decide) rfl ?_
              refine x_iload_n (pc := 70) dJ6_numberOfTrailingZeros_0f7a4_70 rfl rfl ?_
              refine x_iconst (pc := 71) dJ6_numberOfTrailingZeros_0f7a4_71 (by decide) ?_
              refine x_iushr (pc := 72) dJ6_numberOfTrailingZeros_0f7a4_72 ?_
              try rewrite [show b_ushr 7 2 = 1 by decide +kernel]
              try rewrite [show b_ushr 15 2 = 3 by decide +kernel]
              refine x_istore_n (pc := 73) dJ6_numberOfTrailingZeros_0f7a4_73 rfl (by decide) rfl ?_
              refine x_iload_n (pc := 74) dJ6_numberOfTrailingZeros_0f7a4_74 rfl rfl ?_
              refine x_iload_n (pc := 75) dJ6_numberOfTrailingZeros_0f7a4_75 rfl rfl ?_
              refine x_iconst (pc := 76) dJ6_numberOfTrailingZeros_0f7a4_76 (by decide) ?_
              refine x_iushr (pc := 77) dJ6_numberOfTrailingZeros_0f7a4_77 ?_
              try rewrite [show b_ushr 1 1 = 0 by decide +kernel]
              try rewrite [show b_ushr 3 1 = 1 by decide +kernel]
              refine x_iadd (pc := 78) dJ6_numberOfTrailingZeros_0f7a4_78 (by omega) ?_
              refine x_ireturn (pc := 79) dJ6_numberOfTrailingZeros_0f7a4_79 rfl (by decide) ?_
              first
                | (exfalso; omega)
                | exact ⟨by rw [e2]; rfl, rfl, rfl, rfl⟩
        · exfalso; omega
      · exfalso; omega
    · refine x_iload_n (pc := 12) dJ6_numberOfTrailingZeros_0f7a4_12 rfl rfl ?_
      refine x_bipush (pc := 13) dJ6_numberOfTrailingZeros_0f7a4_13 (by decide) ?_
      refine x_iand (pc := 15) dJ6_numberOfTrailingZeros_0f7a4_15 ?_
      refine x_ireturn (pc := 16) dJ6_numberOfTrailingZeros_0f7a4_16 rfl (by decide) ?_
      first
        | (exfalso; omega)
        | exact ⟨by rw [e2]; decide +kernel, rfl, rfl, rfl⟩
  · refine x_iload_n (pc := 0) dJ6_numberOfTrailingZeros_0f7a4_0 rfl rfl ?_
    refine x_iconst (pc := 1) dJ6_numberOfTrailingZeros_0f7a4_1 (by decide) ?_
    refine x_ixor (pc := 2) dJ6_numberOfTrailingZeros_0f7a4_2 ?_
    refine x_iload_n (pc := 3) dJ6_numberOfTrailingZeros_0f7a4_3 rfl rfl ?_
    refine x_iconst (pc := 4) dJ6_numberOfTrailingZeros_0f7a4_4 (by decide) ?_
    refine x_isub (pc := 5) dJ6_numberOfTrailingZeros_0f7a4_5 (by omega) ?_
    refine x_iand (pc := 6) dJ6_numberOfTrailingZeros_0f7a4_6 ?_
    rewrite [e1]
    refine x_istore_n (pc := 7) dJ6_numberOfTrailingZeros_0f7a4_7 rfl (by decide) rfl ?_
    refine x_iload_n (pc := 8) dJ6_numberOfTrailingZeros_0f7a4_8 rfl rfl ?_
    refine x_if_gt (tgt := 17) (pc := 9) dJ6_numberOfTrailingZeros_0f7a4_9 (by decide) (fun c_9 => ?_) (fun c_9 => ?_)
    · refine x_iconst (pc := 17) dJ6_numberOfTrailingZeros_0f7a4_17 (by decide) ?_
      refine x_istore_n (pc := 18) dJ6_numberOfTrailingZeros_0f7a4_18 rfl (by decide) rfl ?_
      refine x_iload_n (pc := 19) dJ6_numberOfTrailingZeros_0f7a4_19 rfl rfl ?_
      refine x_ldcw (n := 65536) (pc := 20) cJ6_264 (by decide) dJ6_numberOfTrailingZeros_0f7a4_20 ?_
      refine x_icmp_le (tgt := 34) (pc := 23) dJ6_numberOfTrailingZeros_0f7a4_23 (by decide) (fun c_23 => ?_) (fun c_23 => ?_)
      · refine x_iload_n (pc := 34) dJ6_numberOfTrailingZeros_0f7a4_34 rfl rfl ?_
        refine x_sipush (pc := 35) dJ6_numberOfTrailingZeros_0f7a4_35 (by decide) ?_
        refine x_icmp_le (tgt := 49) (pc := 38) dJ6_numberOfTrailingZeros_0f7a4_38 (by decide) (fun c_38 => ?_) (fun c_38 => ?_)
        · refine x_iload_n (pc := 49) dJ6_numberOfTrailingZeros_0f7a4_49 rfl rfl ?_
          refine x_bipush (pc := 50) dJ6_numberOfTrailingZeros_0f7a4_50 (by decide) ?_
          refine x_icmp_le (tgt := 62) (pc := 52) dJ6_numberOfTrailingZeros_0f7a4_52 (by decide) (fun c_52 => ?_) (fun c_52 => ?_)
          · refine x_iload_n (pc := 62) dJ6_numberOfTrailingZeros_0f7a4_62 rfl rfl ?_
            refine x_iconst (pc := 63) dJ6_numberOfTrailingZeros_0f7a4_63 (by decide) ?_
            refine x_icmp_le (tgt := 74) (pc := 64) dJ6_numberOfTrailingZeros_0f7a4_64 (by decide) (fun c_64 => ?_) (fun c_64 => ?_)
            · refine x_iload_n (pc := 74) dJ6_numberOfTrailingZeros_0f7a4_74 rfl rfl ?_
              refine x_iload_n (pc := 75) dJ6_numberOfTrailingZeros_0f7a4_75 rfl rfl ?_
              refine x_iconst (pc := 76) dJ6_numberOfTrailingZeros_0f7a4_76 (by decide) ?_
              refine x_iushr (pc := 77) dJ6_numberOfTrailingZeros_0f7a4_77 ?_
              try rewrite [show b_ushr 1 1 = 0 by decide +kernel]
              try rewrite [show b_ushr 3 1 = 1 by decide +kernel]
              refine x_iadd (pc := 78) dJ6_numberOfTrailingZeros_0f7a4_78 (by omega) ?_
              refine x_ireturn (pc := 79) dJ6_numberOfTrailingZeros_0f7a4_79 rfl (by decide) ?_
              first
                | (exfalso; omega)
                | exact ⟨by rw [e2]; rfl, rfl, rfl, rfl⟩
            · refine x_iinc (pc := 67) dJ6_numberOfTrailingZeros_0f7a4_67 rfl (by omega) (by decide) rfl ?_
              refine x_iload_n (pc := 70) dJ6_numberOfTrailingZeros_0f7a4_70 rfl rfl ?_
              refine x_iconst (pc := 71) dJ6_numberOfTrailingZeros_0f7a4_71 (by decide) ?_
              refine x_iushr (pc := 72) dJ6_numberOfTrailingZeros_0f7a4_72 ?_
              try rewrite [show b_ushr 7 2 = 1 by decide +kernel]
              try rewrite [show b_ushr 15 2 = 3 by decide +kernel]
              refine x_istore_n (pc := 73) dJ6_numberOfTrailingZeros_0f7a4_73 rfl (by decide) rfl ?_
              refine x_iload_n (pc := 74) dJ6_numberOfTrailingZeros_0f7a4_74 rfl rfl ?_
              refine x_iload_n (pc := 75) dJ6_numberOfTrailingZeros_0f7a4_75 rfl rfl ?_
              refine x_iconst (pc := 76) dJ6_numberOfTrailingZeros_0f7a4_76 (by decide) ?_
              refine x_iushr (pc := 77) dJ6_numberOfTrailingZeros_0f7a4_77 ?_
              try rewrite [show b_ushr 1 1 = 0 by decide +kernel]
              try rewrite [show b_ushr 3 1 = 1 by decide +kernel]
              refine x_iadd (pc := 78) dJ6_numberOfTrailingZeros_0f7a4_78 (by omega) ?_
              refine x_ireturn (pc := 79) dJ6_numberOfTrailingZeros_0f7a4_79 rfl (by decide) ?_
              first
                | (exfalso; omega)
                | exact ⟨by rw [e2]; rfl, rfl, rfl, rfl⟩
          · refine x_iinc (pc := 55) dJ6_numberOfTrailingZeros_0f7a4_55 rfl (by omega) (by decide) rfl ?_
            refine x_iload_n (pc := 58) dJ6_numberOfTrailingZeros_0f7a4_58 rfl rfl ?_
            refine x_iconst (pc := 59) dJ6_numberOfTrailingZeros_0f7a4_59 (by decide) ?_
            refine x_iushr (pc := 60) dJ6_numberOfTrailingZeros_0f7a4_60 ?_
            try rewrite [show b_ushr 31 4 = 1 by decide +kernel]
            try rewrite [show b_ushr 63 4 = 3 by decide +kernel]
            refine x_istore_n (pc := 61) dJ6_numberOfTrailingZeros_0f7a4_61 rfl (by decide) rfl ?_
            refine x_iload_n (pc := 62) dJ6_numberOfTrailingZeros_0f7a4_62 rfl rfl ?_
            refine x_iconst (pc := 63) dJ6_numberOfTrailingZeros_0f7a4_63 (by decide) ?_
            refine x_icmp_le (tgt := 74) (pc := 64) dJ6_numberOfTrailingZeros_0f7a4_64 (by decide) (fun c_64 => ?_) (fun c_64 => ?_)
            · refine x_iload_n (pc := 74) dJ6_numberOfTrailingZeros_0f7a4_74 rfl rfl ?_
              refine x_iload_n (pc := 75) dJ6_numberOfTrailingZeros_0f7a4_75 rfl rfl ?_
              refine x_iconst (pc := 76) dJ6_numberOfTrailingZeros_0f7a4_76 (by decide) ?_
              refine x_iushr (pc := 77) dJ6_numberOfTrailingZeros_0f7a4_77 ?_
              try rewrite [show b_ushr 1 1 = 0 by decide +kernel]
              try rewrite [show b_ushr 3 1 = 1 by decide +kernel]
              refine x_iadd (pc := 78) dJ6_numberOfTrailingZeros_0f7a4_78 (by omega) ?_
              refine x_ireturn (pc := 79) dJ6_numberOfTrailingZeros_0f7a4_79 rfl (by decide) ?_
              first
                | (exfalso; omega)
                | exact ⟨by rw [e2]; rfl, rfl, rfl, rfl⟩
            · refine x_iinc (pc := 67) dJ6_numberOfTrailingZeros_0f7a4_67 rfl (by omega) (by decide) rfl ?_
              refine x_iload_n (pc := 70) dJ6_numberOfTrailingZeros_0f7a4_70 rfl rfl ?_
              refine x_iconst (pc := 71) dJ6_numberOfTrailingZeros_0f7a4_71 (by decide) ?_
              refine x_iushr (pc := 72) dJ6_numberOfTrailingZeros_0f7a4_72 ?_
              try rewrite [show b_ushr 7 2 = 1 by decide +kernel]
              try rewrite [show b_ushr 15 2 = 3 by decide +kernel]
              refine x_istore_n (pc := 73) dJ6_numberOfTrailingZeros_0f7a4_73 rfl (by decide) rfl ?_
              refine x_iload_n (pc := 74) dJ6_numberOfTrailingZeros_0f7a4_74 rfl rfl ?_
              refine x_iload_n (pc := 75) dJ6_numberOfTrailingZeros_0f7a4_75 rfl rfl ?_
              refine x_iconst (pc := 76) dJ6_numberOfTrailingZeros_0f7a4_76 (by decide) ?_
              refine x_iushr (pc := 77) dJ6_numberOfTrailingZeros_0f7a4_77 ?_
              try rewrite [show b_ushr 1 1 = 0 by decide +kernel]
              try rewrite [show b_ushr 3 1 = 1 by decide +kernel]
              refine x_iadd (pc := 78) dJ6_numberOfTrailingZeros_0f7a4_78 (by omega) ?_
              refine x_ireturn (pc := 79) dJ6_numberOfTrailingZeros_0f7a4_79 rfl (by decide) ?_
              first
                | (exfalso; omega)
                | exact ⟨by rw [e2]; rfl, rfl, rfl, rfl⟩
        · exfalso; omega
      · exfalso; omega
    · refine x_iload_n (pc := 12) dJ6_numberOfTrailingZeros_0f7a4_12 rfl rfl ?_
      refine x_bipush (pc := 13) dJ6_numberOfTrailingZeros_0f7a4_13 (by decide) ?_
      refine x_iand (pc := 15) dJ6_numberOfTrailingZeros_0f7a4_15 ?_
      refine x_ireturn (pc := 16) dJ6_numberOfTrailingZeros_0f7a4_16 rfl (by decide) ?_
      first
        | (exfalso; omega)
        | exact ⟨by rw [e2]; decide +kernel, rfl, rfl, rfl⟩
  · refine x_iload_n (pc := 0) dJ6_numberOfTrailingZeros_0f7a4_0 rfl rfl ?_
    refine x_iconst (pc := 1) dJ6_numberOfTrailingZeros_0f7a4_1 (by decide) ?_
    refine x_ixor (pc := 2) dJ6_numberOfTrailingZeros_0f7a4_2 ?_
    refine x_iload_n (pc := 3) dJ6_numberOfTrailingZeros_0f7a4_3 rfl rfl ?_
    refine x_iconst (pc := 4) dJ6_numberOfTrailingZeros_0f7a4_4 (by decide) ?_
    refine x_isub (pc := 5) dJ6_numberOfTrailingZeros_0f7a4_5 (by omega) ?_
    refine x_iand (pc := 6) dJ6_numberOfTrailingZeros_0f7a4_6 ?_
    rewrite [e1]
    refine x_istore_n (pc := 7) dJ6_numberOfTrailingZeros_0f7a4_7 rfl (by decide) rfl ?_
    refine x_iload_n (pc := 8) dJ6_numberOfTrailingZeros_0f7a4_8 rfl rfl ?_
    refine x_if_gt (tgt := 17) (pc := 9) dJ6_numberOfTrailingZeros_0f7a4_9 (by decide) (fun c_9 => ?_) (fun c_9 => ?_)
    · refine x_iconst (pc := 17) dJ6_numberOfTrailingZeros_0f7a4_17 (by decide) ?_
      refine x_istore_n (pc := 18) dJ6_numberOfTrailingZeros_0f7a4_18 rfl (by decide) rfl ?_
      refine x_iload_n (pc := 19) dJ6_numberOfTrailingZeros_0f7a4_19 rfl rfl ?_
      refine x_ldcw (n := 65536) (pc := 20) cJ6_264 (by decide) dJ6_numberOfTrailingZeros_0f7a4_20 ?_
      refine x_icmp_le (tgt := 34) (pc := 23) dJ6_numberOfTrailingZeros_0f7a4_23 (by decide) (fun c_23 => ?_) (fun c_23 => ?_)
      · refine x_iload_n (pc := 34) dJ6_numberOfTrailingZeros_0f7a4_34 rfl rfl ?_
        refine x_sipush (pc := 35) dJ6_numberOfTrailingZeros_0f7a4_35 (by decide) ?_
        refine x_icmp_le (tgt := 49) (pc := 38) dJ6_numberOfTrailingZeros_0f7a4_38 (by decide) (fun c_38 => ?_) (fun c_38 => ?_)
        · refine x_iload_n (pc := 49) dJ6_numberOfTrailingZeros_0f7a4_49 rfl rfl ?_
          refine x_bipush (pc := 50) dJ6_numberOfTrailingZeros_0f7a4_50 (by decide) ?_
          refine x_icmp_le (tgt := 62) (pc := 52) dJ6_numberOfTrailingZeros_0f7a4_52 (by decide) (fun c_52 => ?_) (fun c_52 => ?_)
          · refine x_iload_n (pc := 62) dJ6_numberOfTrailingZeros_0f7a4_62 rfl rfl ?_
            refine x_iconst (pc := 63) dJ6_numberOfTrailingZeros_0f7a4_63 (by decide) ?_
            refine x_icmp_le (tgt := 74) (pc := 64) dJ6_numberOfTrailingZeros_0f7a4_64 (by decide) (fun c_64 => ?_) (fun c_64 => ?_)
            · refine x_iload_n (pc := 74) dJ6_numberOfTrailingZeros_0f7a4_74 rfl rfl ?_
              refine x_iload_n (pc := 75) dJ6_numberOfTrailingZeros_0f7a4_75 rfl rfl ?_
              refine x_iconst (pc := 76) dJ6_numberOfTrailingZeros_0f7a4_76 (by decide) ?_
              refine x_iushr (pc := 77) dJ6_numberOfTrailingZeros_0f7a4_77 ?_
              try rewrite [show b_ushr 1 1 = 0 by decide +kernel]
              try rewrite [show b_ushr 3 1 = 1 by decide +kernel]
              refine x_iadd (pc := 78) dJ6_numberOfTrailingZeros_0f7a4_78 (by omega) ?_
              refine x_ireturn (pc := 79) dJ6_numberOfTrailingZeros_0f7a4_79 rfl (by decide) ?_
              first
                | (exfalso; omega)
                | exact ⟨by rw [e2]; rfl, rfl, rfl, rfl⟩
            · refine x_iinc (pc := 67) dJ6_numberOfTrailingZeros_0f7a4_67 rfl (by omega) (by decide) rfl ?_
              refine x_iload_n (pc := 70) dJ6_numberOfTrailingZeros_0f7a4_70 rfl rfl ?_
              refine x_iconst (pc := 71) dJ6_numberOfTrailingZeros_0f7a4_71 (by decide) ?_
              refine x_iushr (pc := 72) dJ6_numberOfTrailingZeros_0f7a4_72 ?_
              try rewrite [show b_ushr 7 2 = 1 by decide +kernel]
              try rewrite [show b_ushr 15 2 = 3 by decide +kernel]
              refine x_istore_n (pc := 73) dJ6_numberOfTrailingZeros_0f7a4_73 rfl (by decide) rfl ?_
              refine x_iload_n (pc := 74) dJ6_numberOfTrailingZeros_0f7a4_74 rfl rfl ?_
              refine x_iload_n (pc := 75) dJ6_numberOfTrailingZeros_0f7a4_75 rfl rfl ?_
              refine x_iconst (pc := 76) dJ6_numberOfTrailingZeros_0f7a4_76 (by decide) ?_
              refine x_iushr (pc := 77) dJ6_numberOfTrailingZeros_0f7a4_77 ?_
              try rewrite [show b_ushr 1 1 = 0 by decide +kernel]
              try rewrite [show b_ushr 3 1 = 1 by decide +kernel]
              refine x_iadd (pc := 78) dJ6_numberOfTrailingZeros_0f7a4_78 (by omega) ?_
              refine x_ireturn (pc := 79) dJ6_numberOfTrailingZeros_0f7a4_79 rfl (by decide) ?_
              first
                | (exfalso; omega)
                | exact ⟨by rw [e2]; rfl, rfl, rfl, rfl⟩
          · refine x_iinc (pc := 55) dJ6_numberOfTrailingZeros_0f7a4_55 rfl (by omega) (by decide) rfl ?_
            refine x_iload_n (pc := 58) dJ6_numberOfTrailingZeros_0f7a4_58 rfl rfl ?_
            refine x_iconst (pc := 59) dJ6_numberOfTrailingZeros_0f7a4_59 (by decide) ?_
            refine x_iushr (pc := 60) dJ6_numberOfTrailingZeros_0f7a4_60 ?_
            try rewrite [show b_ushr 31 4 = 1 by decide +kernel]
            try rewrite [show b_ushr 63 4 = 3 by decide +kernel]
            refine x_istore_n (pc := 61) dJ6_numberOfTrailingZeros_0f7a4_61 rfl (by decide) rfl ?_
            refine x_iload_n (pc := 62) dJ6_numberOfTrailingZeros_0f7a4_62 rfl rfl ?_
            refine x_iconst (pc := 63) dJ6_numberOfTrailingZeros_0f7a4_63 (by decide) ?_
            refine x_icmp_le (tgt := 74) (pc := 64) dJ6_numberOfTrailingZeros_0f7a4_64 (by decide) (fun c_64 => ?_) (fun c_64 => ?_)
            · refine x_iload_n (pc := 74) dJ6_numberOfTrailingZeros_0f7a4_74 rfl rfl ?_
              refine x_iload_n (pc := 75) dJ6_numberOfTrailingZeros_0f7a4_75 rfl rfl ?_
              refine x_iconst (pc := 76) dJ6_numberOfTrailingZeros_0f7a4_76 (by decide) ?_
              refine x_iushr (pc := 77) dJ6_numberOfTrailingZeros_0f7a4_77 ?_
              try rewrite [show b_ushr 1 1 = 0 by decide +kernel]
              try rewrite [show b_ushr 3 1 = 1 by decide +kernel]
              refine x_iadd (pc := 78) dJ6_numberOfTrailingZeros_0f7a4_78 (by omega) ?_
              refine x_ireturn (pc := 79) dJ6_numberOfTrailingZeros_0f7a4_79 rfl (by decide) ?_
              first
                | (exfalso; omega)
                | exact ⟨by rw [e2]; rfl, rfl, rfl, rfl⟩
            · refine x_iinc (pc := 67) dJ6_numberOfTrailingZeros_0f7a4_67 rfl (by omega) (by decide) rfl ?_
              refine x_iload_n (pc := 70) dJ6_numberOfTrailingZeros_0f7a4_70 rfl rfl ?_
              refine x_iconst (pc := 71) dJ6_numberOfTrailingZeros_0f7a4_71 (by decide) ?_
              refine x_iushr (pc := 72) dJ6_numberOfTrailingZeros_0f7a4_72 ?_
              try rewrite [show b_ushr 7 2 = 1 by decide +kernel]
              try rewrite [show b_ushr 15 2 = 3 by decide +kernel]
              refine x_istore_n (pc := 73) dJ6_numberOfTrailingZeros_0f7a4_73 rfl (by decide) rfl ?_
              refine x_iload_n (pc := 74) dJ6_numberOfTrailingZeros_0f7a4_74 rfl rfl ?_
              refine x_iload_n (pc := 75) dJ6_numberOfTrailingZeros_0f7a4_75 rfl rfl ?_
              refine x_iconst (pc := 76) dJ6_numberOfTrailingZeros_0f7a4_76 (by decide) ?_
              refine x_iushr (pc := 77) dJ6_numberOfTrailingZeros_0f7a4_77 ?_
              try rewrite [show b_ushr 1 1 = 0 by decide +kernel]
              try rewrite [show b_ushr 3 1 = 1 by decide +kernel]
              refine x_iadd (pc := 78) dJ6_numberOfTrailingZeros_0f7a4_78 (by omega) ?_
              refine x_ireturn (pc := 79) dJ6_numberOfTrailingZeros_0f7a4_79 rfl (by decide) ?_
              first
                | (exfalso; omega)
                | exact ⟨by rw [e2]; rfl, rfl, rfl, rfl⟩
        · exfalso; omega
      · exfalso; omega
    · refine x_iload_n (pc := 12) dJ6_numberOfTrailingZeros_0f7a4_12 rfl rfl ?_
      refine x_bipush (pc := 13) dJ6_numberOfTrailingZeros_0f7a4_13 (by decide) ?_
      refine x_iand (pc := 15) dJ6_numberOfTrailingZeros_0f7a4_15 ?_
      refine x_ireturn (pc := 16) dJ6_numberOfTrailingZeros_0f7a4_16 rfl (by decide) ?_
      first
        | (exfalso; omega)
        | exact ⟨by rw [e2]; decide +kernel, rfl, rfl, rfl⟩
  · refine x_iload_n (pc := 0) dJ6_numberOfTrailingZeros_0f7a4_0 rfl rfl ?_
    refine x_iconst (pc := 1) dJ6_numberOfTrailingZeros_0f7a4_1 (by decide) ?_
    refine x_ixor (pc := 2) dJ6_numberOfTrailingZeros_0f7a4_2 ?_
    refine x_iload_n (pc := 3) dJ6_numberOfTrailingZeros_0f7a4_3 rfl rfl ?_
    refine x_iconst (pc := 4) dJ6_numberOfTrailingZeros_0f7a4_4 (by decide) ?_
    refine x_isub (pc := 5) dJ6_numberOfTrailingZeros_0f7a4_5 (by omega) ?_
    refine x_iand (pc := 6) dJ6_numberOfTrailingZeros_0f7a4_6 ?_
    rewrite [e1]
    refine x_istore_n (pc := 7) dJ6_numberOfTrailingZeros_0f7a4_7 rfl (by decide) rfl ?_
    refine x_iload_n (pc := 8) dJ6_numberOfTrailingZeros_0f7a4_8 rfl rfl ?_
    refine x_if_gt (tgt := 17) (pc := 9) dJ6_numberOfTrailingZeros_0f7a4_9 (by decide) (fun c_9 => ?_) (fun c_9 => ?_)
    · refine x_iconst (pc := 17) dJ6_numberOfTrailingZeros_0f7a4_17 (by decide) ?_
      refine x_istore_n (pc := 18) dJ6_numberOfTrailingZeros_0f7a4_18 rfl (by decide) rfl ?_
      refine x_iload_n (pc := 19) dJ6_numberOfTrailingZeros_0f7a4_19 rfl rfl ?_
      refine x_ldcw (n := 65536) (pc := 20) cJ6_264 (by decide) dJ6_numberOfTrailingZeros_0f7a4_20 ?_
      refine x_icmp_le (tgt := 34) (pc := 23) dJ6_numberOfTrailingZeros_0f7a4_23 (by decide) (fun c_23 => ?_) (fun c_23 => ?_)
      · refine x_iload_n (pc := 34) dJ6_numberOfTrailingZeros_0f7a4_34 rfl rfl ?_
        refine x_sipush (pc := 35) dJ6_numberOfTrailingZeros_0f7a4_35 (by decide) ?_
        refine x_icmp_le (tgt := 49) (pc := 38) dJ6_numberOfTrailingZeros_0f7a4_38 (by decide) (fun c_38 => ?_) (fun c_38 => ?_)
        · refine x_iload_n (pc := 49) dJ6_numberOfTrailingZeros_0f7a4_49 rfl rfl ?_
          refine x_bipush (pc := 50) dJ6_numberOfTrailingZeros_0f7a4_50 (by decide) ?_
          refine x_icmp_le (tgt := 62) (pc := 52) dJ6_numberOfTrailingZeros_0f7a4_52 (by decide) (fun c_52 => ?_) (fun c_52 => ?_)
          · refine x_iload_n (pc := 62) dJ6_numberOfTrailingZeros_0f7a4_62 rfl rfl ?_
            refine x_iconst (pc := 63) dJ6_numberOfTrailingZeros_0f7a4_63 (by decide) ?_
            refine x_icmp_le (tgt := 74) (pc := 64) dJ6_numberOfTrailingZeros_0f7a4_64 (by decide) (fun c_64 => ?_) (fun c_64 => ?_)
            · refine x_iload_n (pc := 74) dJ6_numberOfTrailingZeros_0f7a4_74 rfl rfl ?_
              refine x_iload_n (pc := 75) dJ6_numberOfTrailingZeros_0f7a4_75 rfl rfl ?_
              refine x_iconst (pc := 76) dJ6_numberOfTrailingZeros_0f7a4_76 (by decide) ?_
              refine x_iushr (pc := 77) dJ6_numberOfTrailingZeros_0f7a4_77 ?_
              try rewrite [show b_ushr 1 1 = 0 by decide +kernel]
              try rewrite [show b_ushr 3 1 = 1 by decide +kernel]
              refine x_iadd (pc := 78) dJ6_numberOfTrailingZeros_0f7a4_78 (by omega) ?_
              refine x_ireturn (pc := 79) dJ6_numberOfTrailingZeros_0f7a4_79 rfl (by decide) ?_
              first
                | (exfalso; omega)
                | exact ⟨by rw [e2]; rfl, rfl, rfl, rfl⟩
            · refine x_iinc (pc := 67) dJ6_numberOfTrailingZeros_0f7a4_67 rfl (by omega) (by decide) rfl ?_
              refine x_iload_n (pc := 70) dJ6_numberOfTrailingZeros_0f7a4_70 rfl rfl ?_
              refine x_iconst (pc := 71) dJ6_numberOfTrailingZeros_0f7a4_71 (by decide) ?_
              refine x_iushr (pc := 72) dJ6_numberOfTrailingZeros_0f7a4_72 ?_
              try rewrite [show b_ushr 7 2 = 1 by decide +kernel]
              try rewrite [show b_ushr 15 2 = 3 by decide +kernel]
              refine x_istore_n (pc := 73) dJ6_numberOfTrailingZeros_0f7a4_73 rfl (by decide) rfl ?_
              refine x_iload_n (pc := 74) dJ6_numberOfTrailingZeros_0f7a4_74 rfl rfl ?_
              refine x_iload_n (pc := 75) dJ6_numberOfTrailingZeros_0f7a4_75 rfl rfl ?_
              refine x_iconst (pc := 76) dJ6_numberOfTrailingZeros_0f7a4_76 (by decide) ?_
              refine x_iushr (pc := 77) dJ6_numberOfTrailingZeros_0f7a4_77 ?_
              try rewrite [show b_ushr 1 1 = 0 by decide +kernel]
              try rewrite [show b_ushr 3 1 = 1 by decide +kernel]
              refine x_iadd (pc := 78) dJ6_numberOfTrailingZeros_0f7a4_78 (by omega) ?_
              refine x_ireturn (pc := 79) dJ6_numberOfTrailingZeros_0f7a4_79 rfl (by decide) ?_
              first
                | (exfalso; omega)
                | exact ⟨by rw [e2]; rfl, rfl, rfl, rfl⟩
          · refine x_iinc (pc := 55) dJ6_numberOfTrailingZeros_0f7a4_55 rfl (by omega) (by decide) rfl ?_
            refine x_iload_n (pc := 58) dJ6_numberOfTrailingZeros_0f7a4_58 rfl rfl ?_
            refine x_iconst (pc := 59) dJ6_numberOfTrailingZeros_0f7a4_59 (by decide) ?_
            refine x_iushr (pc := 60) dJ6_numberOfTrailingZeros_0f7a4_60 ?_
            try rewrite [show b_ushr 31 4 = 1 by decide +kernel]
            try rewrite [show b_ushr 63 4 = 3 by decide +kernel]
            refine x_istore_n (pc := 61) dJ6_numberOfTrailingZeros_0f7a4_61 rfl (by decide) rfl ?_
            refine x_iload_n (pc := 62) dJ6_numberOfTrailingZeros_0f7a4_62 rfl rfl ?_
            refine x_iconst (pc := 63) dJ6_numberOfTrailingZeros_0f7a4_63 (by decide) ?_
            refine x_icmp_le (tgt := 74) (pc := 64) dJ6_numberOfTrailingZeros_0f7a4_64 (by decide) (fun c_64 => ?_) (fun c_64 => ?_)
            · refine x_iload_n (pc := 74) dJ6_numberOfTrailingZeros_0f7a4_74 rfl rfl ?_
              refine x_iload_n (pc := 75) dJ6_numberOfTrailingZeros_0f7a4_75 rfl rfl ?_
              refine x_iconst (pc := 76) dJ6_numberOfTrailingZeros_0f7a4_76 (by decide) ?_
              refine x_iushr (pc := 77) dJ6_numberOfTrailingZeros_0f7a4_77 ?_
              try rewrite [show b_ushr 1 1 = 0 by decide +kernel]
              try rewrite [show b_ushr 3 1 = 1 by decide +kernel]
              refine x_iadd (pc := 78) dJ6_numberOfTrailingZeros_0f7a4_78 (by omega) ?_
              refine x_ireturn (pc := 79) dJ6_numberOfTrailingZeros_0f7a4_79 rfl (by decide) ?_
              first
                | (exfalso; omega)
                | exact ⟨by rw [e2]; rfl, rfl, rfl, rfl⟩
            · refine x_iinc (pc := 67) dJ6_numberOfTrailingZeros_0f7a4_67 rfl (by omega) (by decide) rfl ?_
              refine x_iload_n (pc := 70) dJ6_numberOfTrailingZeros_0f7a4_70 rfl rfl ?_
              refine x_iconst (pc := 71) dJ6_numberOfTrailingZeros_0f7a4_71 (by decide) ?_
              refine x_iushr (pc := 72) dJ6_numberOfTrailingZeros_0f7a4_72 ?_
              try rewrite [show b_ushr 7 2 = 1 by decide +kernel]
              try rewrite [show b_ushr 15 2 = 3 by decide +kernel]
              refine x_istore_n (pc := 73) dJ6_numberOfTrailingZeros_0f7a4_73 rfl (by decide) rfl ?_
              refine x_iload_n (pc := 74) dJ6_numberOfTrailingZeros_0f7a4_74 rfl rfl ?_
              refine x_iload_n (pc := 75) dJ6_numberOfTrailingZeros_0f7a4_75 rfl rfl ?_
              refine x_iconst (pc := 76) dJ6_numberOfTrailingZeros_0f7a4_76 (by decide) ?_
              refine x_iushr (pc := 77) dJ6_numberOfTrailingZeros_0f7a4_77 ?_
              try rewrite [show b_ushr 1 1 = 0 by decide +kernel]
              try rewrite [show b_ushr 3 1 = 1 by decide +kernel]
              refine x_iadd (pc := 78) dJ6_numberOfTrailingZeros_0f7a4_78 (by omega) ?_
              refine x_ireturn (pc := 79) dJ6_numberOfTrailingZeros_0f7a4_79 rfl (by decide) ?_
              first
                | (exfalso; omega)
                | exact ⟨by rw [e2]; rfl, rfl, rfl, rfl⟩
        · exfalso; omega
      · exfalso; omega
    · refine x_iload_n (pc := 12) dJ6_numberOfTrailingZeros_0f7a4_12 rfl rfl ?_
      refine x_bipush (pc := 13) dJ6_numberOfTrailingZeros_0f7a4_13 (by decide) ?_
      refine x_iand (pc := 15) dJ6_numberOfTrailingZeros_0f7a4_15 ?_
      refine x_ireturn (pc := 16) dJ6_numberOfTrailingZeros_0f7a4_16 rfl (by decide) ?_
      first
        | (exfalso; omega)
        | exact ⟨by rw [e2]; decide +kernel, rfl, rfl, rfl⟩
  · refine x_iload_n (pc := 0) dJ6_numberOfTrailingZeros_0f7a4_0 rfl rfl ?_
    refine x_iconst (pc := 1) dJ6_numberOfTrailingZeros_0f7a4_1 (by decide) ?_
    refine x_ixor (pc := 2) dJ6_numberOfTrailingZeros_0f7a4_2 ?_
    refine x_iload_n (pc := 3) dJ6_numberOfTrailingZeros_0f7a4_3 rfl rfl ?_
    refine x_iconst (pc := 4) dJ6_numberOfTrailingZeros_0f7a4_4 (by decide) ?_
    refine x_isub (pc := 5) dJ6_numberOfTrailingZeros_0f7a4_5 (by omega) ?_
    refine x_iand (pc := 6) dJ6_numberOfTrailingZeros_0f7a4_6 ?_
    rewrite [e1]
    refine x_istore_n (pc := 7) dJ6_numberOfTrailingZeros_0f7a4_7 rfl (by decide) rfl ?_
    refine x_iload_n (pc := 8) dJ6_numberOfTrailingZeros_0f7a4_8 rfl rfl ?_
    refine x_if_gt (tgt := 17) (pc := 9) dJ6_numberOfTrailingZeros_0f7a4_9 (by decide) (fun c_9 => ?_) (fun c_9 => ?_)
    · refine x_iconst (pc := 17) dJ6_numberOfTrailingZeros_0f7a4_17 (by decide) ?_
      refine x_istore_n (pc := 18) dJ6_numberOfTrailingZeros_0f7a4_18 rfl (by decide) rfl ?_
      refine x_iload_n (pc := 19) dJ6_numberOfTrailingZeros_0f7a4_19 rfl rfl ?_
      refine x_ldcw (n := 65536) (pc := 20) cJ6_264 (by decide) dJ6_numberOfTrailingZeros_0f7a4_20 ?_
      refine x_icmp_le (tgt := 34) (pc := 23) dJ6_numberOfTrailingZeros_0f7a4_23 (by decide) (fun c_23 => ?_) (fun c_23 => ?_)
      · refine x_iload_n (pc := 34) dJ6_numberOfTrailingZeros_0f7a4_34 rfl rfl ?_
        refine x_sipush (pc := 35) dJ6_numberOfTrailingZeros_0f7a4_35 (by decide) ?_
        refine x_icmp_le (tgt := 49) (pc := 38) dJ6_numberOfTrailingZeros_0f7a4_38 (by decide) (fun c_38 => ?_) (fun c_38 => ?_)
        · refine x_iload_n (pc := 49) dJ6_numberOfTrailingZeros_0f7a4_49 rfl rfl ?_
          refine x_bipush (pc := 50) dJ6_numberOfTrailingZeros_0f7a4_50 (by decide) ?_
          refine x_icmp_le (tgt := 62) (pc := 52) dJ6_numberOfTrailingZeros_0f7a4_52 (by decide) (fun c_52 => ?_) (fun c_52 => ?_)
          · refine x_iload_n (pc := 62) dJ6_numberOfTrailingZeros_0f7a4_62 rfl rfl ?_
            refine x_iconst (pc := 63) dJ6_numberOfTrailingZeros_0f7a4_63 (by decide) ?_
            refine x_icmp_le (tgt := 74) (pc := 64) dJ6_numberOfTrailingZeros_0f7a4_64 (by decide) (fun c_64 => ?_) (fun c_64 => ?_)
            · refine x_iload_n (pc := 74) dJ6_numberOfTrailingZeros_0f7a4_74 rfl rfl ?_
              refine x_iload_n (pc := 75) dJ6_numberOfTrailingZeros_0f7a4_75 rfl rfl ?_
              refine x_iconst (pc := 76) dJ6_numberOfTrailingZeros_0f7a4_76 (by decide) ?_
              refine x_iushr (pc := 77) dJ6_numberOfTrailingZeros_0f7a4_77 ?_
              try rewrite [show b_ushr 1 1 = 0 by decide +kernel]
              try rewrite [show b_ushr 3 1 = 1 by decide +kernel]
              refine x_iadd (pc := 78) dJ6_numberOfTrailingZeros_0f7a4_78 (by omega) ?_
              refine x_ireturn (pc := 79) dJ6_numberOfTrailingZeros_0f7a4_79 rfl (by decide) ?_
              first
                | (exfalso; omega)
                | exact ⟨by rw [e2]; rfl, rfl, rfl, rfl⟩
            · refine x_iinc (pc := 67) dJ6_numberOfTrailingZeros_0f7a4_67 rfl (by omega) (by decide) rfl ?_
              refine x_iload_n (pc := 70) dJ6_numberOfTrailingZeros_0f7a4_70 rfl rfl ?_
              refine x_iconst (pc := 71) dJ6_numberOfTrailingZeros_0f7a4_71 (by decide) ?_
              refine x_iushr (pc := 72) dJ6_numberOfTrailingZeros_0f7a4_72 ?_
              try rewrite [show b_ushr 7 2 = 1 by decide +kernel]
              try rewrite [show b_ushr 15 2 = 3 by decide +kernel]
              refine x_istore_n (pc := 73) dJ6_numberOfTrailingZeros_0f7a4_73 rfl (by decide) rfl ?_
              refine x_iload_n (pc := 74) dJ6_numberOfTrailingZeros_0f7a4_74 rfl rfl ?_
              refine x_iload_n (pc := 75) dJ6_numberOfTrailingZeros_0f7a4_75 rfl rfl ?_
              refine x_iconst (pc := 76) dJ6_numberOfTrailingZeros_0f7a4_76 (by decide) ?_
              refine x_iushr (pc := 77) dJ6_numberOfTrailingZeros_0f7a4_77 ?_
              try rewrite [show b_ushr 1 1 = 0 by decide +kernel]
              try rewrite [show b_ushr 3 1 = 1 by decide +kernel]
              refine x_iadd (pc := 78) dJ6_numberOfTrailingZeros_0f7a4_78 (by omega) ?_
              refine x_ireturn (pc := 79) dJ6_numberOfTrailingZeros_0f7a4_79 rfl (by decide) ?_
              first
                | (exfalso; omega)
                | exact ⟨by rw [e2]; rfl, rfl, rfl, rfl⟩
          · refine x_iinc (pc := 55) dJ6_numberOfTrailingZeros_0f7a4_55 rfl (by omega) (by decide) rfl ?_
            refine x_iload_n (pc := 58) dJ6_numberOfTrailingZeros_0f7a4_58 rfl rfl ?_
            refine x_iconst (pc := 59) dJ6_numberOfTrailingZeros_0f7a4_59 (by decide) ?_
            refine x_iushr (pc := 60) dJ6_numberOfTrailingZeros_0f7a4_60 ?_
            try rewrite [show b_ushr 31 4 = 1 by decide +kernel]
            try rewrite [show b_ushr 63 4 = 3 by decide +kernel]
            refine x_istore_n (pc := 61) dJ6_numberOfTrailingZeros_0f7a4_61 rfl (by decide) rfl ?_
            refine x_iload_n (pc := 62) dJ6_numberOfTrailingZeros_0f7a4_62 rfl rfl ?_
            refine x_iconst (pc := 63) dJ6_numberOfTrailingZeros_0f7a4_63 (by decide) ?_
            refine x_icmp_le (tgt := 74) (pc := 64) dJ6_numberOfTrailingZeros_0f7a4_64 (by decide) (fun c_64 => ?_) (fun c_64 => ?_)
            · refine x_iload_n (pc := 74) dJ6_numberOfTrailingZeros_0f7a4_74 rfl rfl ?_
              refine x_iload_n (pc := 75) dJ6_numberOfTrailingZeros_0f7a4_75 rfl rfl ?_
              refine x_iconst (pc := 76) dJ6_numberOfTrailingZeros_0f7a4_76 (by decide) ?_
              refine x_iushr (pc := 77) dJ6_numberOfTrailingZeros_0f7a4_77 ?_
              try rewrite [show b_ushr 1 1 = 0 by decide +kernel]
              try rewrite [show b_ushr 3 1 = 1 by decide +kernel]
              refine x_iadd (pc := 78) dJ6_numberOfTrailingZeros_0f7a4_78 (by omega) ?_
              refine x_ireturn (pc := 79) dJ6_numberOfTrailingZeros_0f7a4_79 rfl (by decide) ?_
              first
                | (exfalso; omega)
                | exact ⟨by rw [e2]; rfl, rfl, rfl, rfl⟩
            · refine x_iinc (pc := 67) dJ6_numberOfTrailingZeros_0f7a4_67 rfl (by omega) (by decide) rfl ?_
              refine x_iload_n (pc := 70) dJ6_numberOfTrailingZeros_0f7a4_70 rfl rfl ?_
              refine x_iconst (pc := 71) dJ6_numberOfTrailingZeros_0f7a4_71 (by decide) ?_
              refine x_iushr (pc := 72) dJ6_numberOfTrailingZeros_0f7a4_72 ?_
              try rewrite [show b_ushr 7 2 = 1 by decide +kernel]
              try rewrite [show b_ushr 15 2 = 3 by decide +kernel]
              refine x_istore_n (pc := 73) dJ6_numberOfTrailingZeros_0f7a4_73 rfl (by decide) rfl ?_
              refine x_iload_n (pc := 74) dJ6_numberOfTrailingZeros_0f7a4_74 rfl rfl ?_
              refine x_iload_n (pc := 75) dJ6_numberOfTrailingZeros_0f7a4_75 rfl rfl ?_
              refine x_iconst (pc := 76) dJ6_numberOfTrailingZeros_0f7a4_76 (by decide) ?_
              refine x_iushr (pc := 77) dJ6_numberOfTrailingZeros_0f7a4_77 ?_
              try rewrite [show b_ushr 1 1 = 0 by decide +kernel]
              try rewrite [show b_ushr 3 1 = 1 by decide +kernel]
              refine x_iadd (pc := 78) dJ6_numberOfTrailingZeros_0f7a4_78 (by omega) ?_
              refine x_ireturn (pc := 79) dJ6_numberOfTrailingZeros_0f7a4_79 rfl (by decide) ?_
              first
                | (exfalso; omega)
                | exact ⟨by rw [e2]; rfl, rfl, rfl, rfl⟩
        · exfalso; omega
      · exfalso; omega
    · refine x_iload_n (pc := 12) dJ6_numberOfTrailingZeros_0f7a4_12 rfl rfl ?_
      refine x_bipush (pc := 13) dJ6_numberOfTrailingZeros_0f7a4_13 (by decide) ?_
      refine x_iand (pc := 15) dJ6_numberOfTrailingZeros_0f7a4_15 ?_
      refine x_ireturn (pc := 16) dJ6_numberOfTrailingZeros_0f7a4_16 rfl (by decide) ?_
      first
        | (exfalso; omega)
        | exact ⟨by rw [e2]; decide +kernel, rfl, rfl, rfl⟩
  · refine x_iload_n (pc := 0) dJ6_numberOfTrailingZeros_0f7a4_0 rfl rfl ?_
    refine x_iconst (pc := 1) dJ6_numberOfTrailingZeros_0f7a4_1 (by decide) ?_
    refine x_ixor (pc := 2) dJ6_numberOfTrailingZeros_0f7a4_2 ?_
    refine x_iload_n (pc := 3) dJ6_numberOfTrailingZeros_0f7a4_3 rfl rfl ?_
    refine x_iconst (pc := 4) dJ6_numberOfTrailingZeros_0f7a4_4 (by decide) ?_
    refine x_isub (pc := 5) dJ6_numberOfTrailingZeros_0f7a4_5 (by omega) ?_
    refine x_iand (pc := 6) dJ6_numberOfTrailingZeros_0f7a4_6 ?_
    rewrite [e1]
    refine x_istore_n (pc := 7) dJ6_numberOfTrailingZeros_0f7a4_7 rfl (by decide) rfl ?_
    refine x_iload_n (pc := 8) dJ6_numberOfTrailingZeros_0f7a4_8 rfl rfl ?_
    refine x_if_gt (tgt := 17) (pc := 9) dJ6_numberOfTrailingZeros_0f7a4_9 (by decide) (fun c_9 => ?_) (fun c_9 => ?_)
    · refine x_iconst (pc := 17) dJ6_numberOfTrailingZeros_0f7a4_17 (by decide) ?_
      refine x_istore_n (pc := 18) dJ6_numberOfTrailingZeros_0f7a4_18 rfl (by decide) rfl ?_
      refine x_iload_n (pc := 19) dJ6_numberOfTrailingZeros_0f7a4_19 rfl rfl ?_
      refine x_ldcw (n := 65536) (pc := 20) cJ6_264 (by decide) dJ6_numberOfTrailingZeros_0f7a4_20 ?_
      refine x_icmp_le (tgt := 34) (pc := 23) dJ6_numberOfTrailingZeros_0f7a4_23 (by decide) (fun c_23 => ?_) (fun c_23 => ?_)
      · refine x_iload_n (pc := 34) dJ6_numberOfTrailingZeros_0f7a4_34 rfl rfl ?_
        refine x_sipush (pc := 35) dJ6_numberOfTrailingZeros_0f7a4_35 (by decide) ?_
        refine x_icmp_le (tgt := 49) (pc := 38) dJ6_numberOfTrailingZeros_0f7a4_38 (by decide) (fun c_38 => ?_) (fun c_38 => ?_)
        · refine x_iload_n (pc := 49) dJ6_numberOfTrailingZeros_0f7a4_49 rfl rfl ?_
          refine x_bipush (pc := 50) dJ6_numberOfTrailingZeros_0f7a4_50 (by decide) ?_
          refine x_icmp_le (tgt := 62) (pc := 52) dJ6_numberOfTrailingZeros_0f7a4_52 (by decide) (fun c_52 => ?_) (fun c_52 => ?_)
          · refine x_iload_n (pc := 62) dJ6_numberOfTrailingZeros_0f7a4_62 rfl rfl ?_
            refine x_iconst (pc := 63) dJ6_numberOfTrailingZeros_0f7a4_63 (by decide) ?_
            refine x_icmp_le (tgt := 74) (pc := 64) dJ6_numberOfTrailingZeros_0f7a4_64 (by decide) (fun c_64 => ?_) (fun c_64 => ?_)
            · refine x_iload_n (pc := 74) dJ6_numberOfTrailingZeros_0f7a4_74 rfl rfl ?_
              refine x_iload_n (pc := 75) dJ6_numberOfTrailingZeros_0f7a4_75 rfl rfl ?_
              refine x_iconst (pc := 76) dJ6_numberOfTrailingZeros_0f7a4_76 (by decide) ?_
              refine x_iushr (pc := 77) dJ6_numberOfTrailingZeros_0f7a4_77 ?_
              try rewrite [show b_ushr 1 1 = 0 by decide +kernel]
              try rewrite [show b_ushr 3 1 = 1 by decide +kernel]
              refine x_iadd (pc := 78) dJ6_numberOfTrailingZeros_0f7a4_78 (by omega) ?_
              refine x_ireturn (pc := 79) dJ6_numberOfTrailingZeros_0f7a4_79 rfl (by decide) ?_
              first
                | (exfalso; omega)
                | exact ⟨by rw [e2]; rfl, rfl, rfl, rfl⟩
            · refine x_iinc (pc := 67) dJ6_numberOfTrailingZeros_0f7a4_67 rfl (by omega) (by decide) rfl ?_
              refine x_iload_n (pc := 70) dJ6_numberOfTrailingZeros_0f7a4_70 rfl rfl ?_
              refine x_iconst (pc := 71) dJ6_numberOfTrailingZeros_0f7a4_71 (by decide) ?_
              refine x_iushr (pc := 72) dJ6_numberOfTrailingZeros_0f7a4_72 ?_
              try rewrite [show b_ushr 7 2 = 1 by decide +kernel]
              try rewrite [show b_ushr 15 2 = 3 by decide +kernel]
              refine x_istore_n (pc := 73) dJ6_numberOfTrailingZeros_0f7a4_73 rfl (by decide) rfl ?_
              refine x_iload_n (pc := 74) dJ6_numberOfTrailingZeros_0f7a4_74 rfl rfl ?_
              refine x_iload_n (pc := 75) dJ6_numberOfTrailingZeros_0f7a4_75 rfl rfl ?_
              refine x_iconst (pc := 76) dJ6_numberOfTrailingZeros_0f7a4_76 (by decide) ?_
              refine x_iushr (pc := 77) dJ6_numberOfTrailingZeros_0f7a4_77 ?_
              try rewrite [show b_ushr 1 1 = 0 by decide +kernel]
              try rewrite [show b_ushr 3 1 = 1 by decide +kernel]
              refine x_iadd (pc := 78) dJ6_numberOfTrailingZeros_0f7a4_78 (by omega) ?_
              refine x_ireturn (pc := 79) dJ6_numberOfTrailingZeros_0f7a4_79 rfl (by decide) ?_
              first
                | (exfalso; omega)
                | exact ⟨by rw [e2]; rfl, rfl, rfl, rfl⟩
          · refine x_iinc (pc := 55) dJ6_numberOfTrailingZeros_0f7a4_55 rfl (by omega) (by decide) rfl ?_
            refine x_iload_n (pc := 58) dJ6_numberOfTrailingZeros_0f7a4_58 rfl rfl ?_
            refine x_iconst (pc := 59) dJ6_numberOfTrailingZeros_0f7a4_59 (by decide) ?_
            refine x_iushr (pc := 60) dJ6_numberOfTrailingZeros_0f7a4_60 ?_
            try rewrite [show b_ushr 31 4 = 1 by decide +kernel]
            try rewrite [show b_ushr 63 4 = 3 by decide +kernel]
            refine x_istore_n (pc := 61) dJ6_numberOfTrailingZeros_0f7a4_61 rfl (by decide) rfl ?_
            refine x_iload_n (pc := 62) dJ6_numberOfTrailingZeros_0f7a4_62 rfl rfl ?_
            refine x_iconst (pc := 63) dJ6_numberOfTrailingZeros_0f7a4_63 (by decide) ?_
            refine x_icmp_le (tgt := 74) (pc := 64) dJ6_numberOfTrailingZeros_0f7a4_64 (by decide) (fun c_64 => ?_) (fun c_64 => ?_)
            · refine x_iload_n (pc := 74) dJ6_numberOfTrailingZeros_0f7a4_74 rfl rfl ?_
              refine x_iload_n (pc := 75) dJ6_numberOfTrailingZeros_0f7a4_75 rfl rfl ?_
              refine x_iconst (pc := 76) dJ6_numberOfTrailingZeros_0f7a4_76 (by decide) ?_
              refine x_iushr (pc := 77) dJ6_numberOfTrailingZeros_0f7a4_77 ?_
              try rewrite [show b_ushr 1 1 = 0 by decide +kernel]
              try rewrite [show b_ushr 3 1 = 1 by decide +kernel]
              refine x_iadd (pc := 78) dJ6_numberOfTrailingZeros_0f7a4_78 (by omega) ?_
              refine x_ireturn (pc := 79) dJ6_numberOfTrailingZeros_0f7a4_79 rfl (by decide) ?_
              first
                | (exfalso; omega)
                | exact ⟨by rw [e2]; rfl, rfl, rfl, rfl⟩
            · refine x_iinc (pc := 67) dJ6_numberOfTrailingZeros_0f7a4_67 rfl (by omega) (by decide) rfl ?_
              refine x_iload_n (pc := 70) dJ6_numberOfTrailingZeros_0f7a4_70 rfl rfl ?_
              refine x_iconst (pc := 71) dJ6_numberOfTrailingZeros_0f7a4_71 (by decide) ?_
              refine x_iushr (pc := 72) dJ6_numberOfTrailingZeros_0f7a4_72 ?_
              try rewrite [show b_ushr 7 2 = 1 by decide +kernel]
              try rewrite [show b_ushr 15 2 = 3 by decide +kernel]
              refine x_istore_n (pc := 73) dJ6_numberOfTrailingZeros_0f7a4_73 rfl (by decide) rfl ?_
              refine x_iload_n (pc := 74) dJ6_numberOfTrailingZeros_0f7a4_74 rfl rfl ?_
              refine x_iload_n (pc := 75) dJ6_numberOfTrailingZeros_0f7a4_75 rfl rfl ?_
              refine x_iconst (pc := 76) dJ6_numberOfTrailingZeros_0f7a4_76 (by decide) ?_
              refine x_iushr (pc := 77) dJ6_numberOfTrailingZeros_0f7a4_77 ?_
              try rewrite [show b_ushr 1 1 = 0 by decide +kernel]
              try rewrite [show b_ushr 3 1 = 1 by decide +kernel]
              refine x_iadd (pc := 78) dJ6_numberOfTrailingZeros_0f7a4_78 (by omega) ?_
              refine x_ireturn (pc := 79) dJ6_numberOfTrailingZeros_0f7a4_79 rfl (by decide) ?_
              first
                | (exfalso; omega)
                | exact ⟨by rw [e2]; rfl, rfl, rfl, rfl⟩
        · exfalso; omega
      · exfalso; omega
    · refine x_iload_n (pc := 12) dJ6_numberOfTrailingZeros_0f7a4_12 rfl rfl ?_
      refine x_bipush (pc := 13) dJ6_numberOfTrailingZeros_0f7a4_13 (by decide) ?_
      refine x_iand (pc := 15) dJ6_numberOfTrailingZeros_0f7a4_15 ?_
      refine x_ireturn (pc := 16) dJ6_numberOfTrailingZeros_0f7a4_16 rfl (by decide) ?_
      first
        | (exfalso; omega)
        | exact ⟨by rw [e2]; decide +kernel, rfl, rfl, rfl⟩
  · refine x_iload_n (pc := 0) dJ6_numberOfTrailingZeros_0f7a4_0 rfl rfl ?_
    refine x_iconst (pc := 1) dJ6_numberOfTrailingZeros_0f7a4_1 (by decide) ?_
    refine x_ixor (pc := 2) dJ6_numberOfTrailingZeros_0f7a4_2 ?_
    refine x_iload_n (pc := 3) dJ6_numberOfTrailingZeros_0f7a4_3 rfl rfl ?_
    refine x_iconst (pc := 4) dJ6_numberOfTrailingZeros_0f7a4_4 (by decide) ?_
    refine x_isub (pc := 5) dJ6_numberOfTrailingZeros_0f7a4_5 (by omega) ?_
    refine x_iand (pc := 6) dJ6_numberOfTrailingZeros_0f7a4_6 ?_
    rewrite [e1]
    refine x_istore_n (pc := 7) dJ6_numberOfTrailingZeros_0f7a4_7 rfl (by decide) rfl ?_
    refine x_iload_n (pc := 8) dJ6_numberOfTrailingZeros_0f7a4_8 rfl rfl ?_
    refine x_if_gt (tgt := 17) (pc := 9) dJ6_numberOfTrailingZeros_0f7a4_9 (by decide) (fun c_9 => ?_) (fun c_9 => ?_)
    · refine x_iconst (pc := 17) dJ6_numberOfTrailingZeros_0f7a4_17 (by decide) ?_
      refine x_istore_n (pc := 18) dJ6_numberOfTrailingZeros_0f7a4_18 rfl (by decide) rfl ?_
      refine x_iload_n (pc := 19) dJ6_numberOfTrailingZeros_0f7a4_19 rfl rfl ?_
      refine x_ldcw (n := 65536) (pc := 20) cJ6_264 (by decide) dJ6_numberOfTrailingZeros_0f7a4_20 ?_
      refine x_icmp_le (tgt := 34) (pc := 23) dJ6_numberOfTrailingZeros_0f7a4_23 (by decide) (fun c_23 => ?_) (fun c_23 => ?_)
      · refine x_iload_n (pc := 34) dJ6_numberOfTrailingZeros_0f7a4_34 rfl rfl ?_
        refine x_sipush (pc := 35) dJ6_numberOfTrailingZeros_0f7a4_35 (by decide) ?_
        refine x_icmp_le (tgt := 49) (pc := 38) dJ6_numberOfTrailingZeros_0f7a4_38 (by decide) (fun c_38 => ?_) (fun c_38 => ?_)
        · refine x_iload_n (pc := 49) dJ6_numberOfTrailingZeros_0f7a4_49 rfl rfl ?_
          refine x_bipush (pc := 50) dJ6_numberOfTrailingZeros_0f7a4_50 (by decide) ?_
          refine x_icmp_le (tgt := 62) (pc := 52) dJ6_numberOfTrailingZeros_0f7a4_52 (by decide) (fun c_52 => ?_) (fun c_52 => ?_)
          · refine x_iload_n (pc := 62) dJ6_numberOfTrailingZeros_0f7a4_62 rfl rfl ?_
            refine x_iconst (pc := 63) dJ6_numberOfTrailingZeros_0f7a4_63 (by decide) ?_
            refine x_icmp_le (tgt := 74) (pc := 64) dJ6_numberOfTrailingZeros_0f7a4_64 (by decide) (fun c_64 => ?_) (fun c_64 => ?_)
            · refine x_iload_n (pc := 74) dJ6_numberOfTrailingZeros_0f7a4_74 rfl rfl ?_
              refine x_iload_n (pc := 75) dJ6_numberOfTrailingZeros_0f7a4_75 rfl rfl ?_
              refine x_iconst (pc := 76) dJ6_numberOfTrailingZeros_0f7a4_76 (by decide) ?_
              refine x_iushr (pc := 77) dJ6_numberOfTrailingZeros_0f7a4_77 ?_
              try rewrite [show b_ushr 1 1 = 0 by decide +kernel]
              try rewrite [show b_ushr 3 1 = 1 by decide +kernel]
              refine x_iadd (pc := 78) dJ6_numberOfTrailingZeros_0f7a4_78 (by omega) ?_
              refine x_ireturn (pc := 79) dJ6_numberOfTrailingZeros_0f7a4_79 rfl (by decide) ?_
              first
                | (exfalso; omega)
                | exact ⟨by rw [e2]; rfl, rfl, rfl, rfl⟩
            · refine x_iinc (pc := 67) dJ6_numberOfTrailingZeros_0f7a4_67 rfl (by omega) (by decide) rfl ?_
              refine x_iload_n (pc := 70) dJ6_numberOfTrailingZeros_0f7a4_70 rfl rfl ?_
              refine x_iconst (pc := 71) dJ6_numberOfTrailingZeros_0f7a4_71 (by decide) ?_
              refine x_iushr (pc := 72) dJ6_numberOfTrailingZeros_0f7a4_72 ?_
              try rewrite [show b_ushr 7 2 = 1 by decide +kernel]
              try rewrite [show b_ushr 15 2 = 3 by decide +kernel]
              refine x_istore_n (pc := 73) dJ6_numberOfTrailingZeros_0f7a4_73 rfl (by decide) rfl ?_
              refine x_iload_n (pc := 74) dJ6_numberOfTrailingZeros_0f7a4_74 rfl rfl ?_
              refine x_iload_n (pc := 75) dJ6_numberOfTrailingZeros_0f7a4_75 rfl rfl ?_
              refine x_iconst (pc := 76) dJ6_numberOfTrailingZeros_0f7a4_76 (by decide) ?_
              refine x_iushr (pc := 77) dJ6_numberOfTrailingZeros_0f7a4_77 ?_
              try rewrite [show b_ushr 1 1 = 0 by decide +kernel]
              try rewrite [show b_ushr 3 1 = 1 by decide +kernel]
              refine x_iadd (pc := 78) dJ6_numberOfTrailingZeros_0f7a4_78 (by omega) ?_
              refine x_ireturn (pc := 79) dJ6_numberOfTrailingZeros_0f7a4_79 rfl (by decide) ?_
              first
                | (exfalso; omega)
                | exact ⟨by rw [e2]; rfl, rfl, rfl, rfl⟩
          · refine x_iinc (pc := 55) dJ6_numberOfTrailingZeros_0f7a4_55 rfl (by omega) (by decide) rfl ?_
            refine x_iload_n (pc := 58) dJ6_numberOfTrailingZeros_0f7a4_58 rfl rfl ?_
            refine x_iconst (pc := 59) dJ6_numberOfTrailingZeros_0f7a4_59 (by decide) ?_
            refine x_iushr (pc := 60) dJ6_numberOfTrailingZeros_0f7a4_60 ?_
            try rewrite [show b_ushr 31 4 = 1 by decide +kernel]
            try rewrite [show b_ushr 63 4 = 3 by decide +kernel]
            refine x_istore_n (pc := 61) dJ6_numberOfTrailingZeros_0f7a4_61 rfl (by decide) rfl ?_
            refine x_iload_n (pc := 62) dJ6_numberOfTrailingZeros_0f7a4_62 rfl rfl ?_
            refine x_iconst (pc := 63) dJ6_numberOfTrailingZeros_0f7a4_63 (by decide) ?_
            refine x_icmp_le (tgt := 74) (pc := 64) dJ6_numberOfTrailingZeros_0f7a4_64 (by decide) (fun c_64 => ?_) (fun c_64 => ?_)
            · refine x_iload_n (pc := 74) dJ6_numberOfTrailingZeros_0f7a4_74 rfl rfl ?_
              refine x_iload_n (pc := 75) dJ6_numberOfTrailingZeros_0f7a4_75 rfl rfl ?_
              refine x_iconst (pc := 76) dJ6_numberOfTrailingZeros_0f7a4_76 (by decide) ?_
              refine x_iushr (pc := 77) dJ6_numberOfTrailingZeros_0f7a4_77 ?_
              try rewrite [show b_ushr 1 1 = 0 by decide +kernel]
              try rewrite [show b_ushr 3 1 = 1 by decide +kernel]
              refine x_iadd (pc := 78) dJ6_numberOfTrailingZeros_0f7a4_78 (by omega) ?_
              refine x_ireturn (pc := 79) dJ6_numberOfTrailingZeros_0f7a4_79 rfl (by decide) ?_
              first
                | (exfalso; omega)
                | exact ⟨by rw [e2]; rfl, rfl, rfl, rfl⟩
            · refine x_iinc (pc := 67) dJ6_numberOfTrailingZeros_0f7a4_67 rfl (by omega) (by decide) rfl ?_
              refine x_iload_n (pc := 70) dJ6_numberOfTrailingZeros_0f7a4_70 rfl rfl ?_
              refine x_iconst (pc := 71) dJ6_numberOfTrailingZeros_0f7a4_71 (by decide) ?_
              refine x_iushr (pc := 72) dJ6_numberOfTrailingZeros_0f7a4_72 ?_
              try rewrite [show b_ushr 7 2 = 1 by decide +kernel]
              try rewrite [show b_ushr 15 2 = 3 by decide +kernel]
              refine x_istore_n (pc := 73) dJ6_numberOfTrailingZeros_0f7a4_73 rfl (by decide) rfl ?_
              refine x_iload_n (pc := 74) dJ6_numberOfTrailingZeros_0f7a4_74 rfl rfl ?_
              refine x_iload_n (pc := 75) dJ6_numberOfTrailingZeros_0f7a4_75 rfl rfl ?_
              refine x_iconst (pc := 76) dJ6_numberOfTrailingZeros_0f7a4_76 (by decide) ?_
              refine x_iushr (pc := 77) dJ6_numberOfTrailingZeros_0f7a4_77 ?_
              try rewrite [show b_ushr 1 1 = 0 by decide +kernel]
              try rewrite [show b_ushr 3 1 = 1 by decide +kernel]
              refine x_iadd (pc := 78) dJ6_numberOfTrailingZeros_0f7a4_78 (by omega) ?_
              refine x_ireturn (pc := 79) dJ6_numberOfTrailingZeros_0f7a4_79 rfl (by decide) ?_
              first
                | (exfalso; omega)
                | exact ⟨by rw [e2]; rfl, rfl, rfl, rfl⟩
        · exfalso; omega
      · exfalso; omega
    · refine x_iload_n (pc := 12) dJ6_numberOfTrailingZeros_0f7a4_12 rfl rfl ?_
      refine x_bipush (pc := 13) dJ6_numberOfTrailingZeros_0f7a4_13 (by decide) ?_
      refine x_iand (pc := 15) dJ6_numberOfTrailingZeros_0f7a4_15 ?_
      refine x_ireturn (pc := 16) dJ6_numberOfTrailingZeros_0f7a4_16 rfl (by decide) ?_
      first
        | (exfalso; omega)
        | exact ⟨by rw [e2]; decide +kernel, rfl, rfl, rfl⟩

theorem sub_tr {x y s : Int} (hx : 0 ≤ x ∧ x < 128) (hy : 0 ≤ y ∧ y < 128) (hs : 0 ≤ s ∧ s < 128) (h1 : b_and x (b_xor y (-1)) = 0) (h2 : b_and y (b_xor s (-1)) = 0) : b_and x (b_xor s (-1)) = 0 :=
  (sub_iff hx hs).mpr fun h a b w => (sub_iff hy hs).mp h2 h a b ((sub_iff hx hy).mp h1 h a b w)
theorem costs_t {t : Int → Int} (hK : TQ t) : costs9 (costV t) := fun s a b => costV_r1 hK ⟨a, b⟩
theorem manyF_0 {c : Int → Int} : ∀ n : Nat, manyF c n 0 = 0
  | 0 => rfl
  | n + 1 => if_pos rfl
theorem manyF_1 {c : Int → Int} {n : Nat} {x : Int} (h : x ≠ 0) : manyF c (n + 1) x = 1 + manyF c n (b_xor x (firstG c x)) := if_neg h
def GA (M : aM) (b : Int) (t : Int → Int) (s : Int) : Prop := ∀ x, 0 < x → x ≤ s → b_and x (b_xor s (-1)) = 0 → GO M b (costV t) x ∧ (costV t x ≠ -1 → M (b + 6) x = encF FAR1 (allV t x))
theorem GO.cg {M M' : aM} {b : Int} {c : Int → Int} {s : Int} (h : GO M b c s) (e : ∀ a, b + 10 ≤ a → a < b + 14 → M' a s = M a s) : GO M' b c s := ⟨(e _ (by omega) (by omega)).trans h.1, (e _ (by omega) (by omega)).trans h.2.1, (e _ (by omega) (by omega)).trans h.2.2.1, fun w => (e _ (by omega) (by omega)).trans (h.2.2.2 w)⟩
theorem RPl.keep {M M' : aM} {w x : Int} {t : Int → Int} (h : RPl M' w t) (hx : 0 ≤ x ∧ x < 128) (e : M' w x = -1 → False) : M' w x = encF FAR1 (allV t x) := by
  rcases h x hx.1 hx.2 with q | q
  · exact absurd q e
  · exact q
theorem dX1_howMany_0 : decode cX1_howMany 0 = .ok (.iconst 0, 1) := by decide +kernel
theorem dX1_howMany_1 : decode cX1_howMany 1 = .ok (.istore_n 2, 1) := by decide +kernel
theorem dX1_howMany_2 : decode cX1_howMany 2 = .ok (.iload_n 1, 1) := by decide +kernel
theorem dX1_howMany_3 : decode cX1_howMany 3 = .ok (.istore_n 3, 1) := by decide +kernel
theorem dX1_howMany_4 : decode cX1_howMany 4 = .ok (.iconst 0, 1) := by decide +kernel
theorem dX1_howMany_5 : decode cX1_howMany 5 = .ok (.istore 4, 2) := by decide +kernel
theorem dX1_howMany_7 : decode cX1_howMany 7 = .ok (.iload 4, 2) := by decide +kernel
theorem dX1_howMany_9 : decode cX1_howMany 9 = .ok (.bipush 7, 2) := by decide +kernel
theorem dX1_howMany_11 : decode cX1_howMany 11 = .ok (.if_icmp .ge 25, 3) := by decide +kernel
theorem dX1_howMany_14 : decode cX1_howMany 14 = .ok (.iload_n 3, 1) := by decide +kernel
theorem dX1_howMany_15 : decode cX1_howMany 15 = .ok (.ifCond .eq 21, 3) := by decide +kernel
theorem dX1_howMany_18 : decode cX1_howMany 18 = .ok (.iload_n 3, 1) := by decide +kernel
theorem dX1_howMany_19 : decode cX1_howMany 19 = .ok (.aload_n 0, 1) := by decide +kernel
theorem dX1_howMany_20 : decode cX1_howMany 20 = .ok (.getfield 18, 3) := by decide +kernel
theorem dX1_howMany_23 : decode cX1_howMany 23 = .ok (.iload_n 3, 1) := by decide +kernel
theorem dX1_howMany_24 : decode cX1_howMany 24 = .ok (.iaload, 1) := by decide +kernel
theorem dX1_howMany_25 : decode cX1_howMany 25 = .ok (.ixor, 1) := by decide +kernel
theorem dX1_howMany_26 : decode cX1_howMany 26 = .ok (.istore_n 3, 1) := by decide +kernel
theorem dX1_howMany_27 : decode cX1_howMany 27 = .ok (.iinc 2 1, 3) := by decide +kernel
theorem dX1_howMany_30 : decode cX1_howMany 30 = .ok (.iinc 4 1, 3) := by decide +kernel
theorem dX1_howMany_33 : decode cX1_howMany 33 = .ok (.goto (-26), 3) := by decide +kernel
theorem dX1_howMany_36 : decode cX1_howMany 36 = .ok (.iload_n 2, 1) := by decide +kernel
theorem dX1_howMany_37 : decode cX1_howMany 37 = .ok (.ireturn, 1) := by decide +kernel
theorem dX1_numberOf_0 : decode cX1_numberOf 0 = .ok (.iload_n 1, 1) := by decide +kernel
theorem dX1_numberOf_1 : decode cX1_numberOf 1 = .ok (.iload_n 2, 1) := by decide +kernel
theorem dX1_numberOf_2 : decode cX1_numberOf 2 = .ok (.invokestatic 54, 3) := by decide +kernel
theorem dX1_numberOf_5 : decode cX1_numberOf 5 = .ok (.ifCond .eq 20, 3) := by decide +kernel
theorem dX1_numberOf_8 : decode cX1_numberOf 8 = .ok (.aload_n 0, 1) := by decide +kernel
theorem dX1_numberOf_9 : decode cX1_numberOf 9 = .ok (.getfield 21, 3) := by decide +kernel
theorem dX1_numberOf_12 : decode cX1_numberOf 12 = .ok (.iload_n 1, 1) := by decide +kernel
theorem dX1_numberOf_13 : decode cX1_numberOf 13 = .ok (.iaload, 1) := by decide +kernel
theorem dX1_numberOf_14 : decode cX1_numberOf 14 = .ok (.iload_n 2, 1) := by decide +kernel
theorem dX1_numberOf_15 : decode cX1_numberOf 15 = .ok (.invokestatic 37, 3) := by decide +kernel
theorem dX1_numberOf_18 : decode cX1_numberOf 18 = .ok (.ishr, 1) := by decide +kernel
theorem dX1_numberOf_19 : decode cX1_numberOf 19 = .ok (.bipush 7, 2) := by decide +kernel
theorem dX1_numberOf_21 : decode cX1_numberOf 21 = .ok (.iand, 1) := by decide +kernel
theorem dX1_numberOf_22 : decode cX1_numberOf 22 = .ok (.goto 4, 3) := by decide +kernel
theorem dX1_numberOf_25 : decode cX1_numberOf 25 = .ok (.iconst (-1), 1) := by decide +kernel
theorem dX1_numberOf_26 : decode cX1_numberOf 26 = .ok (.ireturn, 1) := by decide +kernel
theorem dX1_placeFor_0 : decode cX1_placeFor 0 = .ok (.aload_n 0, 1) := by decide +kernel
theorem dX1_placeFor_1 : decode cX1_placeFor 1 = .ok (.getfield 27, 3) := by decide +kernel
theorem dX1_placeFor_4 : decode cX1_placeFor 4 = .ok (.iconst 1, 1) := by decide +kernel
theorem dX1_placeFor_5 : decode cX1_placeFor 5 = .ok (.iload_n 2, 1) := by decide +kernel
theorem dX1_placeFor_6 : decode cX1_placeFor 6 = .ok (.ishl, 1) := by decide +kernel
theorem dX1_placeFor_7 : decode cX1_placeFor 7 = .ok (.invokevirtual 40, 3) := by decide +kernel
theorem dX1_placeFor_10 : decode cX1_placeFor 10 = .ok (.istore_n 3, 1) := by decide +kernel
theorem dX1_placeFor_11 : decode cX1_placeFor 11 = .ok (.iload_n 3, 1) := by decide +kernel
theorem dX1_placeFor_12 : decode cX1_placeFor 12 = .ok (.iconst (-1), 1) := by decide +kernel
theorem dX1_placeFor_13 : decode cX1_placeFor 13 = .ok (.if_icmp .ne 8, 3) := by decide +kernel
theorem dX1_placeFor_16 : decode cX1_placeFor 16 = .ok (.ldc 49, 2) := by decide +kernel
theorem dX1_placeFor_18 : decode cX1_placeFor 18 = .ok (.goto 4, 3) := by decide +kernel
theorem dX1_placeFor_21 : decode cX1_placeFor 21 = .ok (.iload_n 3, 1) := by decide +kernel
theorem dX1_placeFor_22 : decode cX1_placeFor 22 = .ok (.istore 4, 2) := by decide +kernel
theorem dX1_placeFor_24 : decode cX1_placeFor 24 = .ok (.iload_n 3, 1) := by decide +kernel
theorem dX1_placeFor_25 : decode cX1_placeFor 25 = .ok (.iconst (-1), 1) := by decide +kernel
theorem dX1_placeFor_26 : decode cX1_placeFor 26 = .ok (.if_icmp .ne 7, 3) := by decide +kernel
theorem dX1_placeFor_29 : decode cX1_placeFor 29 = .ok (.iconst (-1), 1) := by decide +kernel
theorem dX1_placeFor_30 : decode cX1_placeFor 30 = .ok (.goto 4, 3) := by decide +kernel
theorem dX1_placeFor_33 : decode cX1_placeFor 33 = .ok (.iload_n 2, 1) := by decide +kernel
theorem dX1_placeFor_34 : decode cX1_placeFor 34 = .ok (.istore 5, 2) := by decide +kernel
theorem dX1_placeFor_36 : decode cX1_placeFor 36 = .ok (.iload_n 1, 1) := by decide +kernel
theorem dX1_placeFor_37 : decode cX1_placeFor 37 = .ok (.istore 6, 2) := by decide +kernel
theorem dX1_placeFor_39 : decode cX1_placeFor 39 = .ok (.iconst 0, 1) := by decide +kernel
theorem dX1_placeFor_40 : decode cX1_placeFor 40 = .ok (.istore 7, 2) := by decide +kernel
theorem dX1_placeFor_42 : decode cX1_placeFor 42 = .ok (.iload 7, 2) := by decide +kernel
theorem dX1_placeFor_44 : decode cX1_placeFor 44 = .ok (.bipush 7, 2) := by decide +kernel
theorem dX1_placeFor_46 : decode cX1_placeFor 46 = .ok (.if_icmp .ge 85, 3) := by decide +kernel
theorem dX1_placeFor_49 : decode cX1_placeFor 49 = .ok (.iload 6, 2) := by decide +kernel
theorem dX1_placeFor_51 : decode cX1_placeFor 51 = .ok (.ifCond .eq 80, 3) := by decide +kernel
theorem dX1_placeFor_54 : decode cX1_placeFor 54 = .ok (.aload_n 0, 1) := by decide +kernel
theorem dX1_placeFor_55 : decode cX1_placeFor 55 = .ok (.getfield 18, 3) := by decide +kernel
theorem dX1_placeFor_58 : decode cX1_placeFor 58 = .ok (.iload 6, 2) := by decide +kernel
theorem dX1_placeFor_60 : decode cX1_placeFor 60 = .ok (.iaload, 1) := by decide +kernel
theorem dX1_placeFor_61 : decode cX1_placeFor 61 = .ok (.istore 8, 2) := by decide +kernel
theorem dX1_placeFor_63 : decode cX1_placeFor 63 = .ok (.aload_n 0, 1) := by decide +kernel
theorem dX1_placeFor_64 : decode cX1_placeFor 64 = .ok (.getfield 27, 3) := by decide +kernel
theorem dX1_placeFor_67 : decode cX1_placeFor 67 = .ok (.iload 8, 2) := by decide +kernel
theorem dX1_placeFor_69 : decode cX1_placeFor 69 = .ok (.iconst 1, 1) := by decide +kernel
theorem dX1_placeFor_70 : decode cX1_placeFor 70 = .ok (.iload_n 2, 1) := by decide +kernel
theorem dX1_placeFor_71 : decode cX1_placeFor 71 = .ok (.ishl, 1) := by decide +kernel
theorem dX1_placeFor_72 : decode cX1_placeFor 72 = .ok (.ior, 1) := by decide +kernel
theorem dX1_placeFor_73 : decode cX1_placeFor 73 = .ok (.invokevirtual 40, 3) := by decide +kernel
theorem dX1_placeFor_76 : decode cX1_placeFor 76 = .ok (.istore 9, 2) := by decide +kernel
theorem dX1_placeFor_78 : decode cX1_placeFor 78 = .ok (.iload 9, 2) := by decide +kernel
theorem dX1_placeFor_80 : decode cX1_placeFor 80 = .ok (.iconst (-1), 1) := by decide +kernel
theorem dX1_placeFor_81 : decode cX1_placeFor 81 = .ok (.if_icmp .eq 37, 3) := by decide +kernel
theorem dX1_placeFor_84 : decode cX1_placeFor 84 = .ok (.iload 9, 2) := by decide +kernel
theorem dX1_placeFor_86 : decode cX1_placeFor 86 = .ok (.aload_n 0, 1) := by decide +kernel
theorem dX1_placeFor_87 : decode cX1_placeFor 87 = .ok (.getfield 11, 3) := by decide +kernel
theorem dX1_placeFor_90 : decode cX1_placeFor 90 = .ok (.iload 8, 2) := by decide +kernel
theorem dX1_placeFor_92 : decode cX1_placeFor 92 = .ok (.iaload, 1) := by decide +kernel
theorem dX1_placeFor_93 : decode cX1_placeFor 93 = .ok (.isub, 1) := by decide +kernel
theorem dX1_placeFor_94 : decode cX1_placeFor 94 = .ok (.iload 4, 2) := by decide +kernel
theorem dX1_placeFor_96 : decode cX1_placeFor 96 = .ok (.if_icmp .ge 22, 3) := by decide +kernel
theorem dX1_placeFor_99 : decode cX1_placeFor 99 = .ok (.iload 9, 2) := by decide +kernel
theorem dX1_placeFor_101 : decode cX1_placeFor 101 = .ok (.aload_n 0, 1) := by decide +kernel
theorem dX1_placeFor_102 : decode cX1_placeFor 102 = .ok (.getfield 11, 3) := by decide +kernel
theorem dX1_placeFor_105 : decode cX1_placeFor 105 = .ok (.iload 8, 2) := by decide +kernel
theorem dX1_placeFor_107 : decode cX1_placeFor 107 = .ok (.iaload, 1) := by decide +kernel
theorem dX1_placeFor_108 : decode cX1_placeFor 108 = .ok (.isub, 1) := by decide +kernel
theorem dX1_placeFor_109 : decode cX1_placeFor 109 = .ok (.istore 4, 2) := by decide +kernel
theorem dX1_placeFor_111 : decode cX1_placeFor 111 = .ok (.iload 8, 2) := by decide +kernel
theorem dX1_placeFor_113 : decode cX1_placeFor 113 = .ok (.invokestatic 31, 3) := by decide +kernel
theorem dX1_placeFor_116 : decode cX1_placeFor 116 = .ok (.istore 5, 2) := by decide +kernel
theorem dX1_placeFor_118 : decode cX1_placeFor 118 = .ok (.iload 6, 2) := by decide +kernel
theorem dX1_placeFor_120 : decode cX1_placeFor 120 = .ok (.iload 8, 2) := by decide +kernel
theorem dX1_placeFor_122 : decode cX1_placeFor 122 = .ok (.ixor, 1) := by decide +kernel
theorem dX1_placeFor_123 : decode cX1_placeFor 123 = .ok (.istore 6, 2) := by decide +kernel
theorem dX1_placeFor_125 : decode cX1_placeFor 125 = .ok (.iinc 7 1, 3) := by decide +kernel
theorem dX1_placeFor_128 : decode cX1_placeFor 128 = .ok (.goto (-86), 3) := by decide +kernel
theorem dX1_placeFor_131 : decode cX1_placeFor 131 = .ok (.iload 5, 2) := by decide +kernel
theorem dX1_placeFor_133 : decode cX1_placeFor 133 = .ok (.ireturn, 1) := by decide +kernel
theorem dX1_shiftOf_0 : decode cX1_shiftOf 0 = .ok (.bipush 6, 2) := by decide +kernel
theorem dX1_shiftOf_2 : decode cX1_shiftOf 2 = .ok (.iload_n 0, 1) := by decide +kernel
theorem dX1_shiftOf_3 : decode cX1_shiftOf 3 = .ok (.isub, 1) := by decide +kernel
theorem dX1_shiftOf_4 : decode cX1_shiftOf 4 = .ok (.iconst 3, 1) := by decide +kernel
theorem dX1_shiftOf_5 : decode cX1_shiftOf 5 = .ok (.imul, 1) := by decide +kernel
theorem dX1_shiftOf_6 : decode cX1_shiftOf 6 = .ok (.ireturn, 1) := by decide +kernel
theorem dX11_least_0 : decode cX11_least 0 = .ok (.aload_n 0, 1) := by decide +kernel
theorem dX11_least_1 : decode cX11_least 1 = .ok (.iload_n 1, 1) := by decide +kernel
theorem dX11_least_2 : decode cX11_least 2 = .ok (.invokevirtual 131, 3) := by decide +kernel
theorem dX11_least_5 : decode cX11_least 5 = .ok (.aload_n 0, 1) := by decide +kernel
theorem dX11_least_6 : decode cX11_least 6 = .ok (.getfield 54, 3) := by decide +kernel
theorem dX11_least_9 : decode cX11_least 9 = .ok (.iload_n 1, 1) := by decide +kernel
theorem dX11_least_10 : decode cX11_least 10 = .ok (.invokevirtual 203, 3) := by decide +kernel
theorem dX11_least_13 : decode cX11_least 13 = .ok (.ifCond .eq 15, 3) := by decide +kernel
theorem dX11_least_16 : decode cX11_least 16 = .ok (.aload_n 0, 1) := by decide +kernel
theorem dX11_least_17 : decode cX11_least 17 = .ok (.getfield 54, 3) := by decide +kernel
theorem dX11_least_20 : decode cX11_least 20 = .ok (.getfield 206, 3) := by decide +kernel
theorem dX11_least_23 : decode cX11_least 23 = .ok (.iload_n 1, 1) := by decide +kernel
theorem dX11_least_24 : decode cX11_least 24 = .ok (.iaload, 1) := by decide +kernel
theorem dX11_least_25 : decode cX11_least 25 = .ok (.goto 4, 3) := by decide +kernel
theorem dX11_least_28 : decode cX11_least 28 = .ok (.iconst (-1), 1) := by decide +kernel
theorem dX11_least_29 : decode cX11_least 29 = .ok (.ireturn, 1) := by decide +kernel
theorem dX11_group_0 : decode cX11_group 0 = .ok (.aload_n 0, 1) := by decide +kernel
theorem dX11_group_1 : decode cX11_group 1 = .ok (.iload_n 1, 1) := by decide +kernel
theorem dX11_group_2 : decode cX11_group 2 = .ok (.invokevirtual 131, 3) := by decide +kernel
theorem dX11_group_5 : decode cX11_group 5 = .ok (.aload_n 0, 1) := by decide +kernel
theorem dX11_group_6 : decode cX11_group 6 = .ok (.getfield 54, 3) := by decide +kernel
theorem dX11_group_9 : decode cX11_group 9 = .ok (.iload_n 1, 1) := by decide +kernel
theorem dX11_group_10 : decode cX11_group 10 = .ok (.invokevirtual 203, 3) := by decide +kernel
theorem dX11_group_13 : decode cX11_group 13 = .ok (.ifCond .ne 5, 3) := by decide +kernel
theorem dX11_group_16 : decode cX11_group 16 = .ok (.iconst (-1), 1) := by decide +kernel
theorem dX11_group_17 : decode cX11_group 17 = .ok (.ireturn, 1) := by decide +kernel
theorem dX11_group_18 : decode cX11_group 18 = .ok (.iload_n 2, 1) := by decide +kernel
theorem dX11_group_19 : decode cX11_group 19 = .ok (.iconst (-1), 1) := by decide +kernel
theorem dX11_group_20 : decode cX11_group 20 = .ok (.if_icmp .ne 14, 3) := by decide +kernel
theorem dX11_group_23 : decode cX11_group 23 = .ok (.aload_n 0, 1) := by decide +kernel
theorem dX11_group_24 : decode cX11_group 24 = .ok (.getfield 54, 3) := by decide +kernel
theorem dX11_group_27 : decode cX11_group 27 = .ok (.iload_n 1, 1) := by decide +kernel
theorem dX11_group_28 : decode cX11_group 28 = .ok (.invokevirtual 209, 3) := by decide +kernel
theorem dX11_group_31 : decode cX11_group 31 = .ok (.goto 12, 3) := by decide +kernel
theorem dX11_group_34 : decode cX11_group 34 = .ok (.aload_n 0, 1) := by decide +kernel
theorem dX11_group_35 : decode cX11_group 35 = .ok (.getfield 54, 3) := by decide +kernel
theorem dX11_group_38 : decode cX11_group 38 = .ok (.iload_n 1, 1) := by decide +kernel
theorem dX11_group_39 : decode cX11_group 39 = .ok (.iload_n 2, 1) := by decide +kernel
theorem dX11_group_40 : decode cX11_group 40 = .ok (.invokevirtual 212, 3) := by decide +kernel
theorem dX11_group_43 : decode cX11_group 43 = .ok (.ireturn, 1) := by decide +kernel
theorem dX11_come_0 : decode cX11_come 0 = .ok (.aload_n 0, 1) := by decide +kernel
theorem dX11_come_1 : decode cX11_come 1 = .ok (.iload_n 2, 1) := by decide +kernel
theorem dX11_come_2 : decode cX11_come 2 = .ok (.invokevirtual 101, 3) := by decide +kernel
theorem dX11_come_5 : decode cX11_come 5 = .ok (.aload_n 0, 1) := by decide +kernel
theorem dX11_come_6 : decode cX11_come 6 = .ok (.iload_n 1, 1) := by decide +kernel
theorem dX11_come_7 : decode cX11_come 7 = .ok (.invokevirtual 131, 3) := by decide +kernel
theorem dX11_come_10 : decode cX11_come 10 = .ok (.iload_n 1, 1) := by decide +kernel
theorem dX11_come_11 : decode cX11_come 11 = .ok (.iload_n 2, 1) := by decide +kernel
theorem dX11_come_12 : decode cX11_come 12 = .ok (.invokestatic 121, 3) := by decide +kernel
theorem dX11_come_15 : decode cX11_come 15 = .ok (.ifCond .eq 11, 3) := by decide +kernel
theorem dX11_come_18 : decode cX11_come 18 = .ok (.new 148, 3) := by decide +kernel
theorem dX11_come_21 : decode cX11_come 21 = .ok (.dup, 1) := by decide +kernel
theorem dX11_come_22 : decode cX11_come 22 = .ok (.invokespecial 150, 3) := by decide +kernel
theorem dX11_come_25 : decode cX11_come 25 = .ok (.athrow, 1) := by decide +kernel
theorem dX11_come_26 : decode cX11_come 26 = .ok (.aload_n 0, 1) := by decide +kernel
theorem dX11_come_27 : decode cX11_come 27 = .ok (.getfield 54, 3) := by decide +kernel
theorem dX11_come_30 : decode cX11_come 30 = .ok (.iload_n 1, 1) := by decide +kernel
theorem dX11_come_31 : decode cX11_come 31 = .ok (.invokevirtual 203, 3) := by decide +kernel
theorem dX11_come_34 : decode cX11_come 34 = .ok (.ifCond .eq 15, 3) := by decide +kernel
theorem dX11_come_37 : decode cX11_come 37 = .ok (.aload_n 0, 1) := by decide +kernel
theorem dX11_come_38 : decode cX11_come 38 = .ok (.getfield 54, 3) := by decide +kernel
theorem dX11_come_41 : decode cX11_come 41 = .ok (.iload_n 1, 1) := by decide +kernel
theorem dX11_come_42 : decode cX11_come 42 = .ok (.iload_n 2, 1) := by decide +kernel
theorem dX11_come_43 : decode cX11_come 43 = .ok (.invokevirtual 215, 3) := by decide +kernel
theorem dX11_come_46 : decode cX11_come 46 = .ok (.goto 4, 3) := by decide +kernel
theorem dX11_come_49 : decode cX11_come 49 = .ok (.iconst (-1), 1) := by decide +kernel
theorem dX11_come_50 : decode cX11_come 50 = .ok (.ireturn, 1) := by decide +kernel
theorem dX11_join_0 : decode cX11_join 0 = .ok (.aload_n 0, 1) := by decide +kernel
theorem dX11_join_1 : decode cX11_join 1 = .ok (.iload_n 1, 1) := by decide +kernel
theorem dX11_join_2 : decode cX11_join 2 = .ok (.invokevirtual 131, 3) := by decide +kernel
theorem dX11_join_5 : decode cX11_join 5 = .ok (.aload_n 0, 1) := by decide +kernel
theorem dX11_join_6 : decode cX11_join 6 = .ok (.iload_n 2, 1) := by decide +kernel
theorem dX11_join_7 : decode cX11_join 7 = .ok (.invokevirtual 131, 3) := by decide +kernel
theorem dX11_join_10 : decode cX11_join 10 = .ok (.aload_n 0, 1) := by decide +kernel
theorem dX11_join_11 : decode cX11_join 11 = .ok (.iload_n 3, 1) := by decide +kernel
theorem dX11_join_12 : decode cX11_join 12 = .ok (.iconst 0, 1) := by decide +kernel
theorem dX11_join_13 : decode cX11_join 13 = .ok (.ldc 218, 2) := by decide +kernel
theorem dX11_join_15 : decode cX11_join 15 = .ok (.invokevirtual 175, 3) := by decide +kernel
theorem dX11_join_18 : decode cX11_join 18 = .ok (.iload_n 1, 1) := by decide +kernel
theorem dX11_join_19 : decode cX11_join 19 = .ok (.iload_n 2, 1) := by decide +kernel
theorem dX11_join_20 : decode cX11_join 20 = .ok (.iand, 1) := by decide +kernel
theorem dX11_join_21 : decode cX11_join 21 = .ok (.ifCond .eq 11, 3) := by decide +kernel
theorem dX11_join_24 : decode cX11_join 24 = .ok (.new 148, 3) := by decide +kernel
theorem dX11_join_27 : decode cX11_join 27 = .ok (.dup, 1) := by decide +kernel
theorem dX11_join_28 : decode cX11_join 28 = .ok (.invokespecial 150, 3) := by decide +kernel
theorem dX11_join_31 : decode cX11_join 31 = .ok (.athrow, 1) := by decide +kernel
theorem dX11_join_32 : decode cX11_join 32 = .ok (.aload_n 0, 1) := by decide +kernel
theorem dX11_join_33 : decode cX11_join 33 = .ok (.getfield 54, 3) := by decide +kernel
theorem dX11_join_36 : decode cX11_join 36 = .ok (.iload_n 1, 1) := by decide +kernel
theorem dX11_join_37 : decode cX11_join 37 = .ok (.iload_n 2, 1) := by decide +kernel
theorem dX11_join_38 : decode cX11_join 38 = .ok (.ior, 1) := by decide +kernel
theorem dX11_join_39 : decode cX11_join 39 = .ok (.invokevirtual 203, 3) := by decide +kernel
theorem dX11_join_42 : decode cX11_join 42 = .ok (.pop, 1) := by decide +kernel
theorem dX11_join_43 : decode cX11_join 43 = .ok (.aload_n 0, 1) := by decide +kernel
theorem dX11_join_44 : decode cX11_join 44 = .ok (.getfield 54, 3) := by decide +kernel
theorem dX11_join_47 : decode cX11_join 47 = .ok (.getfield 206, 3) := by decide +kernel
theorem dX11_join_50 : decode cX11_join 50 = .ok (.iload_n 1, 1) := by decide +kernel
theorem dX11_join_51 : decode cX11_join 51 = .ok (.iaload, 1) := by decide +kernel
theorem dX11_join_52 : decode cX11_join 52 = .ok (.aload_n 0, 1) := by decide +kernel
theorem dX11_join_53 : decode cX11_join 53 = .ok (.getfield 54, 3) := by decide +kernel
theorem dX11_join_56 : decode cX11_join 56 = .ok (.getfield 206, 3) := by decide +kernel
theorem dX11_join_59 : decode cX11_join 59 = .ok (.iload_n 2, 1) := by decide +kernel
theorem dX11_join_60 : decode cX11_join 60 = .ok (.iaload, 1) := by decide +kernel
theorem dX11_join_61 : decode cX11_join 61 = .ok (.iadd, 1) := by decide +kernel
theorem dX11_join_62 : decode cX11_join 62 = .ok (.istore 4, 2) := by decide +kernel
theorem dX11_join_64 : decode cX11_join 64 = .ok (.iload 4, 2) := by decide +kernel
theorem dX11_join_66 : decode cX11_join 66 = .ok (.ldc 219, 2) := by decide +kernel
theorem dX11_join_68 : decode cX11_join 68 = .ok (.if_icmp .lt 8, 3) := by decide +kernel
theorem dX11_join_71 : decode cX11_join 71 = .ok (.ldc 220, 2) := by decide +kernel
theorem dX11_join_73 : decode cX11_join 73 = .ok (.goto 19, 3) := by decide +kernel
theorem dX11_join_76 : decode cX11_join 76 = .ok (.iload 4, 2) := by decide +kernel
theorem dX11_join_78 : decode cX11_join 78 = .ok (.aload_n 0, 1) := by decide +kernel
theorem dX11_join_79 : decode cX11_join 79 = .ok (.getfield 54, 3) := by decide +kernel
theorem dX11_join_82 : decode cX11_join 82 = .ok (.getfield 206, 3) := by decide +kernel
theorem dX11_join_85 : decode cX11_join 85 = .ok (.iload_n 1, 1) := by decide +kernel
theorem dX11_join_86 : decode cX11_join 86 = .ok (.iload_n 2, 1) := by decide +kernel
theorem dX11_join_87 : decode cX11_join 87 = .ok (.ior, 1) := by decide +kernel
theorem dX11_join_88 : decode cX11_join 88 = .ok (.iaload, 1) := by decide +kernel
theorem dX11_join_89 : decode cX11_join 89 = .ok (.isub, 1) := by decide +kernel
theorem dX11_join_90 : decode cX11_join 90 = .ok (.iload_n 3, 1) := by decide +kernel
theorem dX11_join_91 : decode cX11_join 91 = .ok (.isub, 1) := by decide +kernel
theorem dX11_join_92 : decode cX11_join 92 = .ok (.ireturn, 1) := by decide +kernel
theorem dX11_needTotal_0 : decode cX11_needTotal 0 = .ok (.aload_n 0, 1) := by decide +kernel
theorem dX11_needTotal_1 : decode cX11_needTotal 1 = .ok (.getfield 54, 3) := by decide +kernel
theorem dX11_needTotal_4 : decode cX11_needTotal 4 = .ok (.iload_n 1, 1) := by decide +kernel
theorem dX11_needTotal_5 : decode cX11_needTotal 5 = .ok (.invokevirtual 203, 3) := by decide +kernel
theorem dX11_needTotal_8 : decode cX11_needTotal 8 = .ok (.ifCond .ne 11, 3) := by decide +kernel
theorem dX11_needTotal_11 : decode cX11_needTotal 11 = .ok (.new 352, 3) := by decide +kernel
theorem dX11_needTotal_14 : decode cX11_needTotal 14 = .ok (.dup, 1) := by decide +kernel
theorem dX11_needTotal_15 : decode cX11_needTotal 15 = .ok (.invokespecial 354, 3) := by decide +kernel
theorem dX11_needTotal_18 : decode cX11_needTotal 18 = .ok (.athrow, 1) := by decide +kernel
theorem dX11_needTotal_19 : decode cX11_needTotal 19 = .ok (.return_, 1) := by decide +kernel
theorem s_reckon {l : Launch} {E : aE} {N : Nat} {S : aS} {M : aM} (hfl : l.stackTraces = false) (b u : Int) (r rb rg t : Int → Int) (hG : lyG S b u r rb rg) (hd : u + 6 ≤ b ∧ 16 ≤ b) (hK : TQ t) (hB : TB t) (hH : RHs M 1 t) (hT : RTar M u t) (hR : RPr M b t) (hW : RPl M (b + 6) t) (hO : OZ M b) (s : Int) (hs : 0 < s ∧ s < 128) : aMt l E pX1_reckon [(2, b + 9), (0, s)] N S M (aG N S (fun v M' => v = (0, if totE (costV t) s = -1 then 0 else 1) ∧ frB M M' b (b + 14) ∧ RPr M' b t ∧ RPl M' (b + 6) t ∧ OZ M' b ∧ GA M' b t s)) := by
  refine a_met hfl rfl (by decide +kernel) (Nat.le_of_ble_eq_true rfl) ?_
  have hc := costs_t hK
  have loop := a_loop2 (fun x M1 => 1 ≤ x ∧ x ≤ s + 1 ∧ frB M M1 b (b + 14) ∧ RPr M1 b t ∧ RPl M1 (b + 6) t ∧ OZ M1 b ∧ ∀ y, 0 < y → y < x → b_and y (b_xor s (-1)) = 0 → GO M1 b (costV t) y ∧ (costV t y ≠ -1 → M1 (b + 6) y = encF FAR1 (allV t y))) (fun x M1 => (s + 1 - x).toNat) (fun x M1 => aX l E pX1_reckon (aG N S (fun v M' => v = (0, if totE (costV t) s = -1 then 0 else 1) ∧ frB M M' b (b + 14) ∧ RPr M' b t ∧ RPl M' (b + 6) t ∧ OZ M' b ∧ GA M' b t s)) 0 0 N S M1 2 [(0, (2, b + 9)), (1, (0, s)), (2, (0, x))] []) (by
    intro x M1 hI ih
    obtain ⟨h1, h2, h3, h4, h5, h6, h7⟩ := hI
    refine x_iload_n (pc := 2) dX1_reckon_2 rfl rfl ?_
    refine x_iload_n (pc := 3) dX1_reckon_3 rfl rfl ?_
    refine x_icmp_gt (tgt := 40) (pc := 4) dX1_reckon_4 (by decide) (fun c_4 => ?_) (fun c_4 => ?_)
    · have hgs := h7 s hs.1 (by omega) (sub_rf (by omega))
      have hes := encT_or (totE (costV t) s)
      have hel := totE_lt hc (s := s) (by omega)
      refine x_aload_n (pc := 40) dX1_reckon_40 rfl rfl ?_
      refine x_getR (jj := 2) (pc := 41) dX1_reckon_41 fX1_15 hG.1 rfl (by decide) rfl hG.2.1.2.2.1 ?_
      refine x_iload_n (pc := 44) dX1_reckon_44 rfl rfl ?_
      refine x_ialoadV (pc := 45) dX1_reckon_45 hG.2.2.2.1 (by omega) (by (repeat (first | rewrite [up_s] | rewrite [up_i (by omega)] | rewrite [up_a (by omega)])); first | exact hgs.1.2.1 | rfl) (fun g_45 => ?_)
      refine x_ldc (n := 536870912) (pc := 46) cX1_49 (by decide) dX1_reckon_46 ?_
      refine x_icmp_ge (tgt := 55) (pc := 48) dX1_reckon_48 (by decide) (fun c_48 => ?_) (fun c_48 => ?_)
      · refine x_iconst (pc := 55) dX1_reckon_55 (by decide) ?_
        refine x_zreturn (pc := 56) dX1_reckon_56 rfl (by omega) (by decide) ?_
        refine ⟨_, rfl, rfl, rfl, ?_, h3, h4, h5, h6, fun y a q z => h7 y a (by omega) z⟩
        rw [if_pos (by omega)]
      · refine x_iconst (pc := 51) dX1_reckon_51 (by decide) ?_
        refine x_goto (tgt := 56) (pc := 52) dX1_reckon_52 (by decide) ?_
        refine x_zreturn (pc := 56) dX1_reckon_56 rfl (by omega) (by decide) ?_
        refine ⟨_, rfl, rfl, rfl, ?_, h3, h4, h5, h6, fun y a q z => h7 y a (by omega) z⟩
        rw [if_neg (by omega)]
    · refine x_iload_n (pc := 7) dX1_reckon_7 rfl rfl ?_
      refine x_iload_n (pc := 8) dX1_reckon_8 rfl rfl ?_
      refine x_iconst (pc := 9) dX1_reckon_9 (by decide) ?_
      refine x_ixor (pc := 10) dX1_reckon_10 ?_
      refine x_iand (pc := 11) dX1_reckon_11 ?_
      refine x_if_ne (tgt := 34) (pc := 12) dX1_reckon_12 (by decide) (fun c_12 => ?_) (fun c_12 => ?_)
      · refine x_iinc (pc := 34) dX1_reckon_34 rfl (by omega) (by decide) rfl ?_
        refine x_goto (tgt := 2) (pc := 37) dX1_reckon_37 (by decide) ?_
        refine x_lo (lo' := [(0, (2, b + 9)), (1, (0, s)), (2, (0, (x + 1)))]) ⟨rfl, rfl, rfl, trivial⟩ (ih (x + 1) _ ⟨by omega, by omega, h3, h4, h5, h6, fun y a q z => ?_⟩ (by omega))
        by_cases e : y = x
        · subst e; exact absurd z (by assumption)
        · exact h7 y a (by omega) z
      · have hxs : b_and x (b_xor s (-1)) = 0 := by assumption
        refine x_aload_n (pc := 15) dX1_reckon_15 rfl rfl ?_
        refine x_getR (jj := 1) (pc := 16) dX1_reckon_16 fX1_11 hG.1 rfl (by decide) rfl hG.2.1.2.1 ?_
        refine x_iload_n (pc := 19) dX1_reckon_19 rfl rfl ?_
        refine x_aload_n (pc := 20) dX1_reckon_20 rfl rfl ?_
        refine x_getR (jj := 0) (pc := 21) dX1_reckon_21 fX1_27 hG.1 rfl (by decide) rfl hG.2.1.1 ?_
        refine x_iload_n (pc := 24) dX1_reckon_24 rfl rfl ?_
        refine x_callV1 (pc := 25) dX1_reckon_25 rfl kX1_40 (s_costOfC hfl b u r rb t hG.2.2.2.2.2.2.2 hd hK hB (hH.fB h3 (by omega)) (hT.fB h3 (by omega)) h4 h5 x ⟨by omega, by omega⟩) hG.2.2.2.2.2.2.2.1 rfl rfl (Nat.le_of_ble_eq_true rfl) (k_G (fun v9 M9 hM9 => ?_)) n_G
        obtain ⟨rfl, f9, p9, w9, x9, y9, o9, i9⟩ := hM9
        refine x_iastore (pc := 28) dX1_reckon_28 hG.2.2.1 (by omega) ?_
        refine x_aload_n (pc := 29) dX1_reckon_29 rfl rfl ?_
        refine x_iload_n (pc := 30) dX1_reckon_30 rfl rfl ?_
        have hO9 : OZ (up M9 (b + 10) x (costV t x)) b := ⟨fun a y z => (up_a (by omega)).trans ((f9 _ _ (by omega)).trans (h6.1 a y z)), (up_a (by omega)).trans ((f9 _ _ (by omega)).trans h6.2.1), (up_a (by omega)).trans ((f9 _ _ (by omega)).trans h6.2.2)⟩
        have hg9 : ∀ y, 0 < y → y < x → b_and y (b_xor s (-1)) = 0 → GO (up M9 (b + 10) x (costV t x)) b (costV t) y := fun y a q z => (h7 y a q z).1.cg fun c9 u1 u2 => (up_i (by omega)).trans (f9 _ _ (by omega))
        have hco9 : ∀ y, 0 < y → y ≤ x → b_and y (b_xor x (-1)) = 0 → up M9 (b + 10) x (costV t x) (b + 10) y = costV t y := fun y a q z => by
          by_cases e : y = x
          · subst e; exact up_s
          · exact (hg9 y a (by omega) (sub_tr (by omega) (y := x) (by omega) (by omega) z hxs)).1
        have hrs9 : ∀ y, (0 ≤ y ∧ y < x) → b_and y (b_xor x (-1)) = 0 → y ≠ x → up M9 (b + 10) x (costV t x) (b + 11) y = encT (totE (costV t) y) ∧ up M9 (b + 10) x (costV t x) (b + 13) y = encR (totE (costV t) y) := fun y a q z => by
          by_cases e : y = 0
          · subst e; exact ⟨hO9.2.1, hO9.2.2⟩
          · have w := hg9 y (by omega) a.2 (sub_tr (by omega) (y := x) (by omega) (by omega) q hxs)
            exact ⟨w.2.1, w.2.2.1⟩
        refine x_callV1 (pc := 31) dX1_reckon_31 rfl kX1_45 (s_part hfl b u r rb rg t hG (costV t) hc x ⟨by omega, by omega⟩ hO9 hco9 hrs9) hG.1 rfl rfl (Nat.le_of_ble_eq_true rfl) (k_U (fun M8 hM8 => ?_)) n_U
        obtain ⟨k1, k2⟩ := hM8
        refine x_iinc (pc := 34) dX1_reckon_34 rfl (by omega) (by decide) rfl ?_
        refine x_goto (tgt := 2) (pc := 37) dX1_reckon_37 (by decide) ?_
        refine x_lo (lo' := [(0, (2, b + 9)), (1, (0, s)), (2, (0, (x + 1)))]) ⟨rfl, rfl, rfl, trivial⟩ (ih (x + 1) _ ⟨by omega, by omega, ?_, ?_, ?_, ?_, fun y a q z => ?_⟩ (by omega))
        · refine h3.tr (fun a i w => (k2 a i (by omega)).trans ((up_a (by omega)).trans (f9 a i (by omega))))
        · exact p9.cg fun a y z i => (k2 a i (by omega)).trans (up_a (by omega))
        · exact w9.cg fun i => (k2 _ i (by omega)).trans (up_a (by omega))
        · exact ⟨fun a y z => (k2 _ _ (by omega)).trans (hO9.1 a y z), (k2 _ _ (by omega)).trans hO9.2.1, (k2 _ _ (by omega)).trans hO9.2.2⟩
        · have em : ∀ i, M8 (b + 6) i = M9 (b + 6) i := fun i => (k2 _ i (by omega)).trans (up_a (by omega))
          by_cases e : y = x
          · subst e
            exact ⟨k1, fun w => (em _).trans (x9 w).1⟩
          · have w := h7 y a (by omega) z
            refine ⟨(hg9 y a (by omega) z).cg fun c9 u1 u2 => k2 _ _ (by omega), fun q9 => (em _).trans ?_⟩
            exact (i9 y e).trans (w.2 q9))
  refine x_iconst (pc := 0) dX1_reckon_0 (by decide) ?_
  refine x_istore_n (pc := 1) dX1_reckon_1 rfl (by decide) rfl ?_
  refine x_lo (lo' := [(0, (2, b + 9)), (1, (0, s)), (2, (0, 1))]) ⟨rfl, rfl, rfl, trivial⟩ (loop (1) _ ⟨by omega, by omega, frB.rf, hR, hW, hO, fun y a q z => by omega⟩)
theorem s_howMany {l : Launch} {E : aE} {N : Nat} {S : aS} {M : aM} (hfl : l.stackTraces = false) (b u : Int) (r rb rg t : Int → Int) (hG : lyG S b u r rb rg) (hK : TQ t) (s : Int) (hs : 0 < s ∧ s < 128) (ht : totE (costV t) s ≠ -1) (hA : GA M b t s) : aMt l E pX1_howMany [(2, b + 9), (0, s)] N S M (aR (0, manyF (costV t) 7 s) N S M) := by
  refine a_met hfl rfl (by decide +kernel) (Nat.le_of_ble_eq_true rfl) ?_
  have hc := costs_t hK
  have loop := a_loop3 (fun i x n => (0 ≤ i ∧ i ≤ 7) ∧ (0 ≤ x ∧ x < 128) ∧ b_and x (b_xor s (-1)) = 0 ∧ totE (costV t) x ≠ -1 ∧ sumN (hb x) 7 ≤ 7 - i ∧ n = i ∧ n + manyF (costV t) (7 - i).toNat x = manyF (costV t) 7 s) (fun i x n => (7 - i).toNat) (fun i x n => aX l E pX1_howMany (aR (0, manyF (costV t) 7 s) N S M) 0 0 N S M 7 [(0, (2, b + 9)), (2, (0, n)), (3, (0, x)), (4, (0, i))] []) (by
    intro i x n hI ih
    obtain ⟨h1, h2, h3, h4, h5, h6, h7⟩ := hI
    refine x_iload (pc := 7) dX1_howMany_7 rfl ?_
    refine x_bipush (pc := 9) dX1_howMany_9 (by decide) ?_
    refine x_icmp_ge (tgt := 36) (pc := 11) dX1_howMany_11 (by decide) (fun c_11 => ?_) (fun c_11 => ?_)
    · refine x_iload_n (pc := 36) dX1_howMany_36 rfl rfl ?_
      refine x_ireturn (pc := 37) dX1_howMany_37 rfl (by decide) ?_
      refine ⟨?_, rfl, rfl, rfl⟩
      have e0 : x = 0 := by
        by_cases e : x = 0
        · exact e
        · have := size_pos (s := x) (by omega)
          omega
      subst e0
      rw [manyF_0] at h7
      rw [← h7, Int.add_zero]
    · refine x_iload_n (pc := 14) dX1_howMany_14 rfl rfl ?_
      refine x_if_eq (tgt := 36) (pc := 15) dX1_howMany_15 (by decide) (fun c_15 => ?_) (fun c_15 => ?_)
      · refine x_iload_n (pc := 36) dX1_howMany_36 rfl rfl ?_
        refine x_ireturn (pc := 37) dX1_howMany_37 rfl (by decide) ?_
        refine ⟨?_, rfl, rfl, rfl⟩
        have e0 : x = 0 := by omega
        subst e0
        rw [manyF_0] at h7
        rw [← h7, Int.add_zero]
      · refine x_iload_n (pc := 18) dX1_howMany_18 rfl rfl ?_
        refine x_aload_n (pc := 19) dX1_howMany_19 rfl rfl ?_
        refine x_getR (jj := 3) (pc := 20) dX1_howMany_20 fX1_18 hG.1 rfl (by decide) rfl hG.2.1.2.2.2.1 ?_
        refine x_iload_n (pc := 23) dX1_howMany_23 rfl rfl ?_
        refine x_ialoadV (pc := 24) dX1_howMany_24 hG.2.2.2.2.1 (by omega) (by (repeat (first | rewrite [up_s] | rewrite [up_i (by omega)] | rewrite [up_a (by omega)])); first | exact (hA x (by omega) (sub_le h2 (by omega) h3) h3).1.2.2.2 h4 | rfl) (fun g_24 => ?_)
        refine x_ixor (pc := 25) dX1_howMany_25 ?_
        refine x_istore_n (pc := 26) dX1_howMany_26 rfl (by decide) rfl ?_
        refine x_iinc (pc := 27) dX1_howMany_27 rfl (by omega) (by decide) rfl ?_
        refine x_iinc (pc := 30) dX1_howMany_30 rfl (by omega) (by decide) rfl ?_
        refine x_goto (tgt := 7) (pc := 33) dX1_howMany_33 (by decide) ?_
        obtain ⟨p1, p2, p3, p4, p5, p6, p7, p8⟩ := first_ok hc (s := x) (by omega) h4
        have hsz := size_xor p1 ⟨by omega, h2.2⟩ p2
        have hx2 := b_xor_lt h2 (y := firstG (costV t) x) (by omega)
        have hxs := (low_ne ⟨by omega, h2.2⟩ p1 p3 p2).2.1
        refine x_lo (lo' := [(0, (2, b + 9)), (2, (0, n + 1)), (3, (0, b_xor x (firstG (costV t) x))), (4, (0, i + 1))]) ⟨rfl, rfl, rfl, rfl, trivial⟩ (ih (i + 1) _ (n + 1) ⟨by omega, hx2, sub_tr hx2 h2 (by omega) hxs h3, p5, by omega, by omega, ?_⟩ (by omega))
        rw [show (7 - i).toNat = (7 - (i + 1)).toNat + 1 by omega, manyF_1 (by omega)] at h7
        omega)
  refine x_iconst (pc := 0) dX1_howMany_0 (by decide) ?_
  refine x_istore_n (pc := 1) dX1_howMany_1 rfl (by decide) rfl ?_
  refine x_iload_n (pc := 2) dX1_howMany_2 rfl rfl ?_
  refine x_istore_n (pc := 3) dX1_howMany_3 rfl (by decide) rfl ?_
  refine x_iconst (pc := 4) dX1_howMany_4 (by decide) ?_
  refine x_istore (pc := 5) dX1_howMany_5 (by decide) rfl ?_
  refine x_lo (lo' := [(0, (2, b + 9)), (2, (0, 0)), (3, (0, s)), (4, (0, 0))]) ⟨rfl, rfl, rfl, rfl, trivial⟩ (loop (0) (s) (0) ⟨by omega, by omega, sub_rf (by omega), ht, (size_r (by omega)).2, rfl, Int.zero_add _⟩)
theorem s_shiftOf {l : Launch} {E : aE} {N : Nat} {S : aS} {M : aM} (hfl : l.stackTraces = false) (h : Int) (hh : 0 ≤ h ∧ h < 7) : aMt l E pX1_shiftOf [(0, h)] N S M (aR (0, (6 - h) * 3) N S M) := by
  refine a_met hfl rfl (by decide +kernel) (Nat.le_of_ble_eq_true rfl) ?_
  refine x_bipush (pc := 0) dX1_shiftOf_0 (by decide) ?_
  refine x_iload_n (pc := 2) dX1_shiftOf_2 rfl rfl ?_
  refine x_isub (pc := 3) dX1_shiftOf_3 (by omega) ?_
  refine x_iconst (pc := 4) dX1_shiftOf_4 (by decide) ?_
  refine x_imul (pc := 5) dX1_shiftOf_5 (by omega) ?_
  refine x_ireturn (pc := 6) dX1_shiftOf_6 rfl (by decide) ?_
  exact ⟨rfl, rfl, rfl, rfl⟩
theorem isOf_in {s h : Int} (q : isOfV s h ≠ 0) : 0 ≤ h ∧ h < 7 := by
  unfold isOfV at q
  split at q
  · omega
  · exact absurd rfl q
theorem s_numberOf {l : Launch} {E : aE} {N : Nat} {S : aS} {M : aM} (hfl : l.stackTraces = false) (b u : Int) (r rb rg t : Int → Int) (hG : lyG S b u r rb rg) (hK : TQ t) (s : Int) (hs : 0 < s ∧ s < 128) (ht : totE (costV t) s ≠ -1) (hA : GA M b t s) (h : Int) : aMt l E pX1_numberOf [(2, b + 9), (0, s), (0, h)] N S M (aR (0, if isOfV s h = 1 then digV (costV t) s h else -1) N S M) := by
  refine a_met hfl rfl (by decide +kernel) (Nat.le_of_ble_eq_true rfl) ?_
  have h01 := isOfV01 s h
  have hr9 := (hA s hs.1 (Int.le_refl s) (sub_rf (by omega))).1.2.2.1
  have her := encT_or (totE (costV t) s)
  have her2 : encR (totE (costV t) s) = totE (costV t) s % 2097152 := by omega
  rw [her2] at hr9
  refine x_iload_n (pc := 0) dX1_numberOf_0 rfl rfl ?_
  refine x_iload_n (pc := 1) dX1_numberOf_1 rfl rfl ?_
  refine x_callSN2 (pc := 2) dX1_numberOf_2 rfl kX1_54 (s_isOf hfl _ _) rfl (Nat.le_of_ble_eq_true rfl) (k_R ?_) n_R
  refine x_if_eq (tgt := 25) (pc := 5) dX1_numberOf_5 (by decide) (fun c_5 => ?_) (fun c_5 => ?_)
  · refine x_iconst (pc := 25) dX1_numberOf_25 (by decide) ?_
    refine x_ireturn (pc := 26) dX1_numberOf_26 rfl (by decide) ?_
    refine ⟨?_, rfl, rfl, rfl⟩
    rw [if_neg (by omega)]
  · refine x_aload_n (pc := 8) dX1_numberOf_8 rfl rfl ?_
    refine x_getR (jj := 4) (pc := 9) dX1_numberOf_9 fX1_21 hG.1 rfl (by decide) rfl hG.2.1.2.2.2.2.1 ?_
    refine x_iload_n (pc := 12) dX1_numberOf_12 rfl rfl ?_
    refine x_ialoadV (pc := 13) dX1_numberOf_13 hG.2.2.2.2.2.1 (by omega) (by (repeat (first | rewrite [up_s] | rewrite [up_i (by omega)] | rewrite [up_a (by omega)])); first | exact hr9 | rfl) (fun g_13 => ?_)
    refine x_iload_n (pc := 14) dX1_numberOf_14 rfl rfl ?_
    have hh9 := isOf_in (by assumption)
    refine x_callS1 (pc := 15) dX1_numberOf_15 rfl kX1_37 (s_shiftOf hfl h hh9) rfl (Nat.le_of_ble_eq_true rfl) (k_R ?_) n_R
    refine x_ishr (pc := 18) dX1_numberOf_18 ?_
    refine x_bipush (pc := 19) dX1_numberOf_19 (by decide) ?_
    refine x_iand (pc := 21) dX1_numberOf_21 ?_
    refine x_goto (tgt := 26) (pc := 22) dX1_numberOf_22 (by decide) ?_
    refine x_ireturn (pc := 26) dX1_numberOf_26 rfl (by decide) ?_
    refine ⟨?_, rfl, rfl, rfl⟩
    rw [if_pos (by omega)]
    rfl
/-- where a newcomer goes, from what is left on -/
def comF (c : Int → Int) (h : Int) : Nat → Int → Int → Int → Int
  | 0, _, _, pl => pl
  | n + 1, x, le, pl => if x = 0 then pl else if c (b_or (firstG c x) (b_shl 1 h)) ≠ -1 ∧ c (b_or (firstG c x) (b_shl 1 h)) - c (firstG c x) < le then comF c h n (b_xor x (firstG c x)) (c (b_or (firstG c x) (b_shl 1 h)) - c (firstG c x)) (lowV (firstG c x)) else comF c h n (b_xor x (firstG c x)) le pl
def comeV (c : Int → Int) (s h : Int) : Int := comF c h 7 s (if c (b_shl 1 h) = -1 then 536870912 else c (b_shl 1 h)) (if c (b_shl 1 h) = -1 then -1 else h)
theorem comF_0 {c : Int → Int} {h le pl : Int} : ∀ n : Nat, comF c h n 0 le pl = pl
  | 0 => rfl
  | n + 1 => if_pos rfl
theorem or_bit {g h : Int} (hg : 0 < g ∧ g < 128) (hh : 0 ≤ h ∧ h < 7) : 0 < b_or g (b_shl 1 h) ∧ b_or g (b_shl 1 h) < 128 := by
  have z := b_or_lt (x := g) (y := b_shl 1 h) (by omega) (b_shl1_lt hh)
  obtain ⟨⟨l0, l1⟩, l2, l3⟩ := low_r hg
  refine ⟨?_, z.2⟩
  by_cases e : b_or g (b_shl 1 h) = 0
  · have := (hb_or (x := g) (y := b_shl 1 h) (by omega) (b_shl1_lt hh) ⟨l0, l1⟩).mpr (Or.inl l2)
    rw [e] at this
    exact absurd this (hb_0 ⟨l0, l1⟩)
  · omega
theorem shl_pos {h : Int} (hh : 0 ≤ h ∧ h < 7) : 0 < b_shl 1 h ∧ b_shl 1 h < 128 := bt_fin (n := 7) (m := 1) (P := fun h _ => 0 < b_shl 1 h ∧ b_shl 1 h < 128) (by decide +kernel) hh (b := 0) (by omega)
theorem s_placeFor {l : Launch} {E : aE} {N : Nat} {S : aS} {M : aM} (hfl : l.stackTraces = false) (b u : Int) (r rb rg t : Int → Int) (hG : lyG S b u r rb rg) (hd : u + 6 ≤ b ∧ 16 ≤ b) (hK : TQ t) (hB : TB t) (hH : RHs M 1 t) (hT : RTar M u t) (hR : RPr M b t) (hW : RPl M (b + 6) t) (s h : Int) (hs : 0 < s ∧ s < 128) (hh : 0 ≤ h ∧ h < 7) (ht : totE (costV t) s ≠ -1) (hA : GA M b t s) : aMt l E pX1_placeFor [(2, b + 9), (0, s), (0, h)] N S M (aG N S (fun v M' => v = (0, comeV (costV t) s h) ∧ frB M M' b (b + 9) ∧ RPr M' b t ∧ RPl M' (b + 6) t)) := by
  refine a_met hfl rfl (by decide +kernel) (Nat.le_of_ble_eq_true rfl) ?_
  have hc := costs_t hK
  have loop := a_loop5 (fun i x le pl M1 => (0 ≤ i ∧ i ≤ 7) ∧ (0 ≤ x ∧ x < 128) ∧ b_and x (b_xor s (-1)) = 0 ∧ totE (costV t) x ≠ -1 ∧ sumN (hb x) 7 ≤ 7 - i ∧ comF (costV t) h (7 - i).toNat x le pl = comeV (costV t) s h ∧ (-300000 ≤ le ∧ le ≤ 536870912) ∧ frB M M1 b (b + 9) ∧ RPr M1 b t ∧ RPl M1 (b + 6) t) (fun i x le pl M1 => (7 - i).toNat) (fun i x le pl M1 => aX l E pX1_placeFor (aG N S (fun v M' => v = (0, comeV (costV t) s h) ∧ frB M M' b (b + 9) ∧ RPr M' b t ∧ RPl M' (b + 6) t)) 0 0 N S M1 42 [(0, (2, b + 9)), (2, (0, h)), (4, (0, le)), (5, (0, pl)), (6, (0, x)), (7, (0, i))] []) (by
    intro i x le pl M1 hI ih
    obtain ⟨h1, h2, h3, h4, h5, h6, h7, h8, h9, h10⟩ := hI
    refine x_iload (pc := 42) dX1_placeFor_42 rfl ?_
    refine x_bipush (pc := 44) dX1_placeFor_44 (by decide) ?_
    refine x_icmp_ge (tgt := 131) (pc := 46) dX1_placeFor_46 (by decide) (fun c_46 => ?_) (fun c_46 => ?_)
    · refine x_iload (pc := 131) dX1_placeFor_131 rfl ?_
      refine x_ireturn (pc := 133) dX1_placeFor_133 rfl (by decide) ?_
      have e0 : x = 0 := by
        by_cases e : x = 0
        · exact e
        · have := size_pos (s := x) (by omega)
          omega
      subst e0
      rw [comF_0] at h6
      exact ⟨_, rfl, rfl, rfl, by rw [h6], h8, h9, h10⟩
    · refine x_iload (pc := 49) dX1_placeFor_49 rfl ?_
      refine x_if_eq (tgt := 131) (pc := 51) dX1_placeFor_51 (by decide) (fun c_51 => ?_) (fun c_51 => ?_)
      · refine x_iload (pc := 131) dX1_placeFor_131 rfl ?_
        refine x_ireturn (pc := 133) dX1_placeFor_133 rfl (by decide) ?_
        have e0 : x = 0 := by omega
        subst e0
        rw [comF_0] at h6
        exact ⟨_, rfl, rfl, rfl, by rw [h6], h8, h9, h10⟩
      · obtain ⟨p1, p2, p3, p4, p5, p6, p7, p8⟩ := first_ok hc (s := x) (by omega) h4
        have hsz := size_xor p1 ⟨by omega, h2.2⟩ p2
        have hx2 := b_xor_lt h2 (y := firstG (costV t) x) (by omega)
        have hxs := (low_ne ⟨by omega, h2.2⟩ p1 p3 p2).2.1
        have hob := or_bit p1 hh
        have hcw := hc _ hob.1 hob.2
        have hcg := hc _ p1.1 p1.2
        have hfs := sub_tr (by omega) h2 (by omega) p2 h3
        have hg9 := hA (firstG (costV t) x) p1.1 (sub_le (by omega) (by omega) hfs) hfs
        refine x_aload_n (pc := 54) dX1_placeFor_54 rfl rfl ?_
        refine x_getR (jj := 3) (pc := 55) dX1_placeFor_55 fX1_18 hG.1 rfl (by decide) rfl hG.2.1.2.2.2.1 ?_
        refine x_iload (pc := 58) dX1_placeFor_58 rfl ?_
        refine x_ialoadV (pc := 60) dX1_placeFor_60 hG.2.2.2.2.1 (by omega) (by (repeat (first | rewrite [up_s] | rewrite [up_i (by omega)] | rewrite [up_a (by omega)])); first | exact (h8 _ _ (by omega)).trans ((hA x (by omega) (sub_le h2 (by omega) h3) h3).1.2.2.2 h4) | exact c99 | rfl) (fun g_60 => ?_)
        refine x_istore (pc := 61) dX1_placeFor_61 (by decide) rfl ?_
        refine x_aload_n (pc := 63) dX1_placeFor_63 rfl rfl ?_
        refine x_getR (jj := 0) (pc := 64) dX1_placeFor_64 fX1_27 hG.1 rfl (by decide) rfl hG.2.1.1 ?_
        refine x_iload (pc := 67) dX1_placeFor_67 rfl ?_
        refine x_iconst (pc := 69) dX1_placeFor_69 (by decide) ?_
        refine x_iload_n (pc := 70) dX1_placeFor_70 rfl rfl ?_
        refine x_ishl (pc := 71) dX1_placeFor_71 ?_
        refine x_ior (pc := 72) dX1_placeFor_72 ?_
        refine x_callV1 (pc := 73) dX1_placeFor_73 rfl kX1_40 (s_costOfC hfl b u r rb t hG.2.2.2.2.2.2.2 hd hK hB (hH.fB h8 (by omega)) (hT.fB h8 (by omega)) h9 h10 (b_or (firstG (costV t) x) (b_shl 1 h)) ⟨hob.1, hob.2⟩) hG.2.2.2.2.2.2.2.1 rfl rfl (Nat.le_of_ble_eq_true rfl) (k_G (fun v9 M9 hM9 => ?_)) n_G
        obtain ⟨rfl, f9, p9, w9, x9, y9, o9, i9⟩ := hM9
        have F9 : frB M M9 b (b + 9) := h8.tr f9
        have c99 : M9 (b + 10) (firstG (costV t) x) = costV t (firstG (costV t) x) := (F9 _ _ (by omega)).trans hg9.1.1
        refine x_istore (pc := 76) dX1_placeFor_76 (by decide) rfl ?_
        refine x_iload (pc := 78) dX1_placeFor_78 rfl ?_
        refine x_iconst (pc := 80) dX1_placeFor_80 (by decide) ?_
        refine x_icmp_eq (tgt := 118) (pc := 81) dX1_placeFor_81 (by decide) (fun c_81 => ?_) (fun c_81 => ?_)
        · refine x_iload (pc := 118) dX1_placeFor_118 rfl ?_
          refine x_iload (pc := 120) dX1_placeFor_120 rfl ?_
          refine x_ixor (pc := 122) dX1_placeFor_122 ?_
          refine x_istore (pc := 123) dX1_placeFor_123 (by decide) rfl ?_
          refine x_iinc (pc := 125) dX1_placeFor_125 rfl (by omega) (by decide) rfl ?_
          refine x_goto (tgt := 42) (pc := 128) dX1_placeFor_128 (by decide) ?_
          refine x_lo (lo' := [(0, (2, b + 9)), (2, (0, h)), (4, (0, le)), (5, (0, pl)), (6, (0, b_xor x (firstG (costV t) x))), (7, (0, i + 1))]) ⟨rfl, rfl, rfl, rfl, rfl, rfl, trivial⟩ (ih (i + 1) _ (le) (pl) M9 ⟨by omega, hx2, sub_tr hx2 h2 (by omega) hxs h3, p5, by omega, ?_, by omega, F9, p9, w9⟩ (by omega))
          rw [show (7 - i).toNat = (7 - (i + 1)).toNat + 1 by omega] at h6
          unfold comF at h6
          rw [if_neg (by omega), if_neg (by rintro ⟨q8, q9⟩; first | exact absurd (by assumption) q8 | omega)] at h6
          exact h6
        · refine x_iload (pc := 84) dX1_placeFor_84 rfl ?_
          refine x_aload_n (pc := 86) dX1_placeFor_86 rfl rfl ?_
          refine x_getR (jj := 1) (pc := 87) dX1_placeFor_87 fX1_11 hG.1 rfl (by decide) rfl hG.2.1.2.1 ?_
          refine x_iload (pc := 90) dX1_placeFor_90 rfl ?_
          refine x_ialoadV (pc := 92) dX1_placeFor_92 hG.2.2.1 (by omega) (by (repeat (first | rewrite [up_s] | rewrite [up_i (by omega)] | rewrite [up_a (by omega)])); first | exact (h8 _ _ (by omega)).trans ((hA x (by omega) (sub_le h2 (by omega) h3) h3).1.2.2.2 h4) | exact c99 | rfl) (fun g_92 => ?_)
          refine x_isub (pc := 93) dX1_placeFor_93 (by omega) ?_
          refine x_iload (pc := 94) dX1_placeFor_94 rfl ?_
          refine x_icmp_ge (tgt := 118) (pc := 96) dX1_placeFor_96 (by decide) (fun c_96 => ?_) (fun c_96 => ?_)
          · refine x_iload (pc := 118) dX1_placeFor_118 rfl ?_
            refine x_iload (pc := 120) dX1_placeFor_120 rfl ?_
            refine x_ixor (pc := 122) dX1_placeFor_122 ?_
            refine x_istore (pc := 123) dX1_placeFor_123 (by decide) rfl ?_
            refine x_iinc (pc := 125) dX1_placeFor_125 rfl (by omega) (by decide) rfl ?_
            refine x_goto (tgt := 42) (pc := 128) dX1_placeFor_128 (by decide) ?_
            refine x_lo (lo' := [(0, (2, b + 9)), (2, (0, h)), (4, (0, le)), (5, (0, pl)), (6, (0, b_xor x (firstG (costV t) x))), (7, (0, i + 1))]) ⟨rfl, rfl, rfl, rfl, rfl, rfl, trivial⟩ (ih (i + 1) _ (le) (pl) M9 ⟨by omega, hx2, sub_tr hx2 h2 (by omega) hxs h3, p5, by omega, ?_, by omega, F9, p9, w9⟩ (by omega))
            rw [show (7 - i).toNat = (7 - (i + 1)).toNat + 1 by omega] at h6
            unfold comF at h6
            rw [if_neg (by omega), if_neg (by rintro ⟨q8, q9⟩; omega)] at h6
            exact h6
          · refine x_iload (pc := 99) dX1_placeFor_99 rfl ?_
            refine x_aload_n (pc := 101) dX1_placeFor_101 rfl rfl ?_
            refine x_getR (jj := 1) (pc := 102) dX1_placeFor_102 fX1_11 hG.1 rfl (by decide) rfl hG.2.1.2.1 ?_
            refine x_iload (pc := 105) dX1_placeFor_105 rfl ?_
            refine x_ialoadV (pc := 107) dX1_placeFor_107 hG.2.2.1 (by omega) (by (repeat (first | rewrite [up_s] | rewrite [up_i (by omega)] | rewrite [up_a (by omega)])); first | exact (h8 _ _ (by omega)).trans ((hA x (by omega) (sub_le h2 (by omega) h3) h3).1.2.2.2 h4) | exact c99 | rfl) (fun g_107 => ?_)
            refine x_isub (pc := 108) dX1_placeFor_108 (by omega) ?_
            refine x_istore (pc := 109) dX1_placeFor_109 (by decide) rfl ?_
            refine x_iload (pc := 111) dX1_placeFor_111 rfl ?_
            refine x_callS1 (pc := 113) dX1_placeFor_113 rfl kX1_31 (s_ntz hfl (firstG (costV t) x) p1) rfl (Nat.le_of_ble_eq_true rfl) (k_R ?_) n_R
            refine x_istore (pc := 116) dX1_placeFor_116 (by decide) rfl ?_
            refine x_iload (pc := 118) dX1_placeFor_118 rfl ?_
            refine x_iload (pc := 120) dX1_placeFor_120 rfl ?_
            refine x_ixor (pc := 122) dX1_placeFor_122 ?_
            refine x_istore (pc := 123) dX1_placeFor_123 (by decide) rfl ?_
            refine x_iinc (pc := 125) dX1_placeFor_125 rfl (by omega) (by decide) rfl ?_
            refine x_goto (tgt := 42) (pc := 128) dX1_placeFor_128 (by decide) ?_
            refine x_lo (lo' := [(0, (2, b + 9)), (2, (0, h)), (4, (0, (costV t (b_or (firstG (costV t) x) (b_shl 1 h))) - costV t (firstG (costV t) x))), (5, (0, lowV (firstG (costV t) x))), (6, (0, b_xor x (firstG (costV t) x))), (7, (0, i + 1))]) ⟨rfl, rfl, rfl, rfl, rfl, rfl, trivial⟩ (ih (i + 1) _ ((costV t (b_or (firstG (costV t) x) (b_shl 1 h))) - costV t (firstG (costV t) x)) (lowV (firstG (costV t) x)) M9 ⟨by omega, hx2, sub_tr hx2 h2 (by omega) hxs h3, p5, by omega, ?_, by omega, F9, p9, w9⟩ (by omega))
            rw [show (7 - i).toNat = (7 - (i + 1)).toNat + 1 by omega] at h6
            unfold comF at h6
            rw [if_neg (by omega), if_pos ⟨by assumption, by omega⟩] at h6
            exact h6)
  refine x_aload_n (pc := 0) dX1_placeFor_0 rfl rfl ?_
  refine x_getR (jj := 0) (pc := 1) dX1_placeFor_1 fX1_27 hG.1 rfl (by decide) rfl hG.2.1.1 ?_
  refine x_iconst (pc := 4) dX1_placeFor_4 (by decide) ?_
  refine x_iload_n (pc := 5) dX1_placeFor_5 rfl rfl ?_
  refine x_ishl (pc := 6) dX1_placeFor_6 ?_
  refine x_callV1 (pc := 7) dX1_placeFor_7 rfl kX1_40 (s_costOfC hfl b u r rb t hG.2.2.2.2.2.2.2 hd hK hB hH hT hR hW (b_shl 1 h) (shl_pos hh)) hG.2.2.2.2.2.2.2.1 rfl rfl (Nat.le_of_ble_eq_true rfl) (k_G (fun v9 M9 hM9 => ?_)) n_G
  obtain ⟨rfl, f9, p9, w9, x9, y9, o9, i9⟩ := hM9
  have hc1 := hc _ (shl_pos hh).1 (shl_pos hh).2
  refine x_istore_n (pc := 10) dX1_placeFor_10 rfl (by decide) rfl ?_
  refine x_iload_n (pc := 11) dX1_placeFor_11 rfl rfl ?_
  refine x_iconst (pc := 12) dX1_placeFor_12 (by decide) ?_
  refine x_icmp_ne (tgt := 21) (pc := 13) dX1_placeFor_13 (by decide) (fun c_13 => ?_) (fun c_13 => ?_)
  · refine x_iload_n (pc := 21) dX1_placeFor_21 rfl rfl ?_
    refine x_istore (pc := 22) dX1_placeFor_22 (by decide) rfl ?_
    refine x_iload_n (pc := 24) dX1_placeFor_24 rfl rfl ?_
    refine x_iconst (pc := 25) dX1_placeFor_25 (by decide) ?_
    refine x_icmp_ne (tgt := 33) (pc := 26) dX1_placeFor_26 (by decide) (fun c_26 => ?_) (fun c_26 => ?_)
    · refine x_iload_n (pc := 33) dX1_placeFor_33 rfl rfl ?_
      refine x_istore (pc := 34) dX1_placeFor_34 (by decide) rfl ?_
      refine x_iload_n (pc := 36) dX1_placeFor_36 rfl rfl ?_
      refine x_istore (pc := 37) dX1_placeFor_37 (by decide) rfl ?_
      refine x_iconst (pc := 39) dX1_placeFor_39 (by decide) ?_
      refine x_istore (pc := 40) dX1_placeFor_40 (by decide) rfl ?_
      refine x_lo (lo' := [(0, (2, b + 9)), (2, (0, h)), (4, (0, costV t (b_shl 1 h))), (5, (0, h)), (6, (0, s)), (7, (0, 0))]) ⟨rfl, rfl, rfl, rfl, rfl, rfl, trivial⟩ (loop 0 s (costV t (b_shl 1 h)) (h) M9 ⟨by omega, by omega, sub_rf (by omega), ht, (size_r (by omega)).2, ?_, by omega, f9, p9, w9⟩)
      unfold comeV
      rw [if_neg (by assumption), if_neg (by assumption)]
      rfl
    · refine x_iconst (pc := 29) dX1_placeFor_29 (by decide) ?_
      refine x_goto (tgt := 34) (pc := 30) dX1_placeFor_30 (by decide) ?_
      refine x_istore (pc := 34) dX1_placeFor_34 (by decide) rfl ?_
      refine x_iload_n (pc := 36) dX1_placeFor_36 rfl rfl ?_
      refine x_istore (pc := 37) dX1_placeFor_37 (by decide) rfl ?_
      refine x_iconst (pc := 39) dX1_placeFor_39 (by decide) ?_
      refine x_istore (pc := 40) dX1_placeFor_40 (by decide) rfl ?_
      exfalso; omega
  · refine x_ldc (n := 536870912) (pc := 16) cX1_49 (by decide) dX1_placeFor_16 ?_
    refine x_goto (tgt := 22) (pc := 18) dX1_placeFor_18 (by decide) ?_
    refine x_istore (pc := 22) dX1_placeFor_22 (by decide) rfl ?_
    refine x_iload_n (pc := 24) dX1_placeFor_24 rfl rfl ?_
    refine x_iconst (pc := 25) dX1_placeFor_25 (by decide) ?_
    refine x_icmp_ne (tgt := 33) (pc := 26) dX1_placeFor_26 (by decide) (fun c_26 => ?_) (fun c_26 => ?_)
    · refine x_iload_n (pc := 33) dX1_placeFor_33 rfl rfl ?_
      refine x_istore (pc := 34) dX1_placeFor_34 (by decide) rfl ?_
      refine x_iload_n (pc := 36) dX1_placeFor_36 rfl rfl ?_
      refine x_istore (pc := 37) dX1_placeFor_37 (by decide) rfl ?_
      refine x_iconst (pc := 39) dX1_placeFor_39 (by decide) ?_
      refine x_istore (pc := 40) dX1_placeFor_40 (by decide) rfl ?_
      exfalso; omega
    · refine x_iconst (pc := 29) dX1_placeFor_29 (by decide) ?_
      refine x_goto (tgt := 34) (pc := 30) dX1_placeFor_30 (by decide) ?_
      refine x_istore (pc := 34) dX1_placeFor_34 (by decide) rfl ?_
      refine x_iload_n (pc := 36) dX1_placeFor_36 rfl rfl ?_
      refine x_istore (pc := 37) dX1_placeFor_37 (by decide) rfl ?_
      refine x_iconst (pc := 39) dX1_placeFor_39 (by decide) ?_
      refine x_istore (pc := 40) dX1_placeFor_40 (by decide) rfl ?_
      refine x_lo (lo' := [(0, (2, b + 9)), (2, (0, h)), (4, (0, 536870912)), (5, (0, -1)), (6, (0, s)), (7, (0, 0))]) ⟨rfl, rfl, rfl, rfl, rfl, rfl, trivial⟩ (loop 0 s (536870912) (-1) M9 ⟨by omega, by omega, sub_rf (by omega), ht, (size_r (by omega)).2, ?_, by omega, f9, p9, w9⟩)
      unfold comeV
      rw [if_pos (by assumption), if_pos (by assumption)]
      rfl
